def l_E_multiply_27_2 : Nat → gS → Int32 → Int32 → Option (Int32 × gS)
  | 0, _, _, _ => none
  | n + 1, z, x2, x3 =>
    if x2 ≤ x3 then (some (x2, z))
     else (bd2 (f_E_rowTimes_27 z x3 x2) (fun r4 w3 =>
     if x3 < 0 ∨ 10 ≤ x3.toNatClampNeg then none else
     (some (s_J w3 23 (vp_updL (w3.2.2.2 23) x3.toNatClampNeg r4))).bind (fun w6 =>
     l_E_multiply_27_2 n w6 x2 (x3 + (1 : Int32)))))
def f_E_multiply_27 (z0 : gS) (p2 : Int32) : Option gS :=
 bd2 (l_E_multiply_27_2 200 z0 p2 (0 : Int32)) (fun v8 w9 =>
 if (0 : Int32) < 0 ∨ (0 : Int32) < 0 ∨ v8 < 0 ∨ 10 < (0 : Int32).toNatClampNeg + v8.toNatClampNeg ∨ 10 < (0 : Int32).toNatClampNeg + v8.toNatClampNeg then none else
 (some (s_J w9 27 (va_cpy (w9.2.2.2 23) (w9.2.2.2 27) (0 : Int32).toNatClampNeg (0 : Int32).toNatClampNeg v8.toNatClampNeg))).bind (fun w12 =>
 some w12))
set_option maxHeartbeats 4000000 in
set_option maxRecDepth 100000 in
theorem m_E_multiply_27 (l : Launch) (D : va_G) (cy : Nat → ClassId) (ad : Nat → Nat) (sz : Nat) (z0 : gS) (p2 : Int32) (zz : gS) (hf : f_E_multiply_27 z0 p2 = some zz) : Met l y_E_multiply (Cond.code y_E_multiply c_E_multiply 4 none :: gt_ws) ({ frames := 1, cells := 0, slots := 0, locals := 45 }) (sPc D cl_all (gTy cy) nwC 52 ad (g1 cy ad z0) sz [.ref (ad 3), .ref (ad 27), .int p2]) (sQv D cl_all 52 ad (g1 cy ad z0) sz (g1 cy ad zz)) 0 0 (va_A (wl 52 ad (g1 cy ad z0)) sz) := by
  refine Met.ofW (cc := c_E_multiply) (maxL := 4) (ret := none) (by decide) rfl ?_
  intro p e s m args below meth c s₁ B hml hv
  obtain ⟨rfl, hsz, hP, hK, hN, hD0⟩ := hv
  have hx := B.exec
  have hb := B.bytes
  have hr := B.returns
  have hts := atoms_spec (ws := (Cond.code y_E_multiply c_E_multiply 4 none :: gt_ws)) B.pre
  have ht : ∀ w ∈ gt_ws, w.before _ s = true := fun w h => hts w (List.mem_cons_of_mem _ h)
  have hown : s.vm.findClass RQ_E = some m.cls := findClass_of_methodNamed B.named
  have hlocks := B.notSynchronized
  subst hsz
  have hD1 := hD0.self (sz := s.heap.size)
  obtain ⟨A, hAe⟩ : ∃ A, A = va_A (wl 52 ad (g1 cy ad z0)) s.heap.size := ⟨_, rfl⟩
  rw [← hAe] at hD1
  have hD : ∀ g, va_D A (wl 52 ad g) := fun _ => wl_D hD1
  have hA : ∀ q : Nat, s.heap.size ≤ q → A q := fun q h => by rw [hAe]; exact Or.inr h
  have hS : va_S A s.heap s.heap [] := va_S.rf
  have hl := lv_entry ([.ref (ad 3), .ref (ad 27), .int p2]) (n := 4) (Nat.le_of_ble_eq_true rfl)
  rw [lg_entry_eq]
  generalize (lg_sl ([.ref (ad 3), .ref (ad 27), .int p2]) ++ List.replicate (4 - (lg_sl ([.ref (ad 3), .ref (ad 27), .int p2])).length) Slot.unset).toArray = ls at hl ⊢
  have hl : lv_has ls 4 [(0, .ref (ad 3)), (1, .ref (ad 27)), (2, .int p2)] := hl
  have L_2 : ∀ (n : Nat) (z : gS) (x2 : Int32) (x3 : Int32) (y2 : Int32) (z9 : gS), l_E_multiply_27_2 n z x2 x3 = some (y2, z9) → ∀ (H : Heap) (locs : List Loc) (ls : Array Slot), va_P D cl_all (wl 52 ad (g1 cy ad z)) H → va_S A s.heap H locs → lv_has ls 4 [(0, .ref (ad 3)), (1, .ref (ad 27)), (2, .int x2), (3, .int x3)] →
      (∀ (H : Heap) (locs : List Loc) (ls : Array Slot), va_P D cl_all (wl 52 ad (g1 cy ad z9)) H → va_S A s.heap H locs → lv_has ls 4 [(0, .ref (ad 3)), (1, .ref (ad 27)), (2, .int y2)] → W p l e (headSpec (Cond.code y_E_multiply c_E_multiply 4 none :: gt_ws) ({ frames := 1, cells := 0, slots := 0, locals := 45 })).room s m ([.ref (ad 3), .ref (ad 27), .int p2]).toArray below meth c H locs 0 0 (MQ below (sQv D cl_all 52 ad (g1 cy ad z0) s.heap.size (g1 cy ad zz)) ([.ref (ad 3), .ref (ad 27), .int p2]).toArray s 0 0 (va_A (wl 52 ad (g1 cy ad z0)) s.heap.size)) (F0 m 26 ls [])) →
      W p l e (headSpec (Cond.code y_E_multiply c_E_multiply 4 none :: gt_ws) ({ frames := 1, cells := 0, slots := 0, locals := 45 })).room s m ([.ref (ad 3), .ref (ad 27), .int p2]).toArray below meth c H locs 0 0 (MQ below (sQv D cl_all 52 ad (g1 cy ad z0) s.heap.size (g1 cy ad zz)) ([.ref (ad 3), .ref (ad 27), .int p2]).toArray s 0 0 (va_A (wl 52 ad (g1 cy ad z0)) s.heap.size)) (F0 m 2 ls []) := by
    intro n
    induction n with
    | zero => intro z x2 x3 y2 z9 hf; rw [l_E_multiply_27_2] at hf; cases hf
    | succ n ih =>
      intro z x2 x3 y2 z9 hf H locs ls hP hS hl k_0
      rw [l_E_multiply_27_2] at hf
      refine lv_iload_n hx hb d_E_multiply_2 rfl (lv_at hl 3 rfl) ?_
      refine lv_iload_n hx hb d_E_multiply_3 rfl (lv_at hl 2 rfl) ?_
      refine lv_icmp_ge (tgt := 26) hx hb d_E_multiply_4 (by decide) (fun c1 => ?_) (fun c1 => ?_)
      ·
        have hf := op_pos hf c1
        cases hf
        exact k_0 _ _ _ hP hS (lv_sub hl [0, 1, 2] rfl)
      ·
        have hf := op_neg hf c1
        refine lv_aload_n hx hb d_E_multiply_7 rfl (lv_at hl 0 rfl) ?_
        refine wx_get (v := .ref (ad 23)) (C := RQ_E) (T := FQ_E) (N := 7) hx hb ht IQ_E hown hK hP 3 (by decide) (e_g1_3 cy ad _) rfl 6 (by decide) (ht _ kw_174) (fun _ h9 => h9) rfl d_E_multiply_8 ?_
        refine lv_iload_n hx hb d_E_multiply_11 rfl (lv_at hl 3 rfl) ?_
        refine lv_aload_n hx hb d_E_multiply_12 rfl (lv_at hl 0 rfl) ?_
        refine lv_iload_n hx hb d_E_multiply_13 rfl (lv_at hl 3 rfl) ?_
        refine lv_aload_n hx hb d_E_multiply_14 rfl (lv_at hl 1 rfl) ?_
        refine lv_iload_n hx hb d_E_multiply_15 rfl (lv_at hl 2 rfl) ?_
        obtain ⟨r4, w3, hc2, hf⟩ := op_b2 hf
        refine wx_fl (wx_rV (As := [.int x3, .ref (ad 27), .int x2]) (rest := [.int x3, .ref (ad 23)]) ⟨hx, hb, hml, hown, ht⟩ (m_E_rowTimes_27 l D cy ad _ z x3 x2 _ _ hc2) ⟨callB_of 3 ht (gt_in (fun _ h9 => h9) kw_405) rfl rfl rfl (ht _ kw_50) (ht _ kw_402) q_E_rowTimes ⟨Nat.le_of_ble_eq_true rfl, Nat.le_of_ble_eq_true rfl⟩, ht _ kw_404, ht _ kw_15⟩ nwC_ok hN hK hP (hD _) (by decide) (e_g1_3 cy ad _) rfl rfl hl.1 rfl (Nat.le_of_ble_eq_true rfl) d_E_multiply_16 ⟨Nat.zero_le _, Nat.zero_le _⟩) (hD _) hS hA (fun H locs hP hS => ?_)
        obtain ⟨h5, hf⟩ := op_chk hf
        refine wx_last hx hb hK hP (hD _) hS 23 (by decide) (by decide) 10 rfl h5 d_E_multiply_19 (fun H locs hP hS => ?_)
        obtain ⟨w6, h7, hf⟩ := op_let hf
        rw [h7] at hP
        refine lv_iinc (v := x3 + (1 : Int32)) (lv' := [(3, .int (x3 + (1 : Int32))), (0, .ref (ad 3)), (1, .ref (ad 27)), (2, .int x2)]) hx hb d_E_multiply_20 hl (k := 3) rfl rfl (by decide) rfl (fun ls hl => ?_)
        refine lv_goto (tgt := 2) hx hb d_E_multiply_23 (by decide) ?_
        exact ih _ _ _ _ _ hf _ _ _ hP hS (lv_sub hl [1, 2, 3, 0] rfl) k_0
  unfold f_E_multiply_27 at hf
  refine lv_iconst (v := 0) hx hb d_E_multiply_0 (by decide) ?_
  refine lv_istore_n (lv' := [(3, .int (0 : Int32)), (0, .ref (ad 3)), (1, .ref (ad 27)), (2, .int p2)]) hx hb d_E_multiply_1 rfl hl (by decide) rfl (fun ls hl => ?_)
  obtain ⟨v8, w9, hc10, hf⟩ := op_b2 hf
  refine L_2 _ _ _ _ _ _ hc10 _ _ _ hP hS (lv_sub hl [1, 2, 3, 0] rfl) (fun H locs ls hP hS hl => ?_)
  refine lv_aload_n hx hb d_E_multiply_26 rfl (lv_at hl 0 rfl) ?_
  refine wx_get (v := .ref (ad 23)) (C := RQ_E) (T := FQ_E) (N := 7) hx hb ht IQ_E hown hK hP 3 (by decide) (e_g1_3 cy ad _) rfl 6 (by decide) (ht _ kw_174) (fun _ h9 => h9) rfl d_E_multiply_27 ?_
  refine lv_iconst (v := 0) hx hb d_E_multiply_30 (by decide) ?_
  refine lv_aload_n hx hb d_E_multiply_31 rfl (lv_at hl 1 rfl) ?_
  refine lv_iconst (v := 0) hx hb d_E_multiply_32 (by decide) ?_
  refine lv_iload_n hx hb d_E_multiply_33 rfl (lv_at hl 2 rfl) ?_
  obtain ⟨h11, hf⟩ := op_chk hf
  refine wx_copyl hx hb (hml.trans hl.1.symm) hown (ht _ kw_410) (ht _ kw_412) (ht _ kw_411) (ht _ kw_56) hK hP (hD _) hS 23 27 (by decide) (by decide) (by decide) (by decide) 10 10 rfl rfl h11 (Nat.le_of_ble_eq_true rfl) (by decide +kernel) d_E_multiply_34 (fun H locs hP hS => ?_)
  obtain ⟨w12, h13, hf⟩ := op_let hf
  rw [h13] at hP
  obtain rfl := Option.some.inj hf
  exact wx_vret hx hb hr hlocks hAe hP hS d_E_multiply_37

def l_E_solveScaled_26_27_83 : Nat → gS → Int32 → Option (gS)
  | 0, _, _ => none
  | n + 1, z, x3 =>
    if (z.1 6) ≤ x3 then (some z)
     else (if x3 < 0 ∨ 10 ≤ x3.toNatClampNeg then none else
     if x3 < 0 ∨ 10 ≤ x3.toNatClampNeg then none else
     (some (s_J z 27 (vp_updL (z.2.2.2 27) x3.toNatClampNeg (-(z.2.2.2 27 x3.toNatClampNeg))))).bind (fun w4 =>
     l_E_solveScaled_26_27_83 n w4 (x3 + (1 : Int32))))
def l_E_solveScaled_26_27_33 : Nat → gS → Int32 → Int32 → Option (Int32 × gS)
  | 0, _, _, _ => none
  | n + 1, z, x3, x4 =>
    if (z.1 6) ≤ x4 then (some (x3, z))
     else (if x4 < 0 ∨ 10 ≤ x4.toNatClampNeg then none else
     if x3 < 0 ∨ 11 ≤ x3.toNatClampNeg then none else
     if x4 < 0 ∨ 10 ≤ x4.toNatClampNeg then none else
     if x4 < 0 ∨ 10 ≤ x4.toNatClampNeg then none else
     (some (s_J z 27 (vp_updL (z.2.2.2 27) x4.toNatClampNeg ((z.2.2.2 27 x4.toNatClampNeg) + ((z.2.2.2 20 x3.toNatClampNeg) * (z.2.2.2 26 x4.toNatClampNeg)))))).bind (fun w11 =>
     l_E_solveScaled_26_27_33 n w11 x3 (x4 + (1 : Int32))))
def l_E_solveScaled_26_27_13 : Nat → gS → Int32 → Option (gS)
  | 0, _, _ => none
  | n + 1, z, x3 =>
    if (z.1 6) ≤ x3 then (some z)
     else (bd1 (f_E_multiply_27 z (z.1 6)) (fun w15 =>
     bd2 (l_E_solveScaled_26_27_33 200 w15 x3 (0 : Int32)) (fun v16 w17 =>
     l_E_solveScaled_26_27_13 n w17 (v16 + (1 : Int32)))))
def f_E_solveScaled_26_27 (z0 : gS) : Option gS :=
 if (0 : Int32) < 0 ∨ (0 : Int32) < 0 ∨ (z0.1 6) < 0 ∨ 10 < (0 : Int32).toNatClampNeg + (z0.1 6).toNatClampNeg ∨ 10 < (0 : Int32).toNatClampNeg + (z0.1 6).toNatClampNeg then none else
 (some (s_J z0 27 (va_cpy (z0.2.2.2 26) (z0.2.2.2 27) (0 : Int32).toNatClampNeg (0 : Int32).toNatClampNeg (z0.1 6).toNatClampNeg))).bind (fun w20 =>
 bd1 (l_E_solveScaled_26_27_13 200 w20 (1 : Int32)) (fun w22 =>
 if ((w22.1 6) - (w22.1 6) / (2 : Int32) * (2 : Int32)) = 0 then (bd1 (l_E_solveScaled_26_27_83 200 w22 (0 : Int32)) (fun w25 =>
 some w25))
 else (some w22)))
set_option maxHeartbeats 4000000 in
set_option maxRecDepth 100000 in
theorem m_E_solveScaled_26_27 (l : Launch) (D : va_G) (cy : Nat → ClassId) (ad : Nat → Nat) (sz : Nat) (z0 : gS) (zz : gS) (hf : f_E_solveScaled_26_27 z0 = some zz) : Met l y_E_solveScaled (Cond.code y_E_solveScaled c_E_solveScaled 5 none :: gt_ws) ({ frames := 2, cells := 0, slots := 0, locals := 90 }) (sPc D cl_all (gTy cy) nwC 52 ad (g1 cy ad z0) sz [.ref (ad 3), .ref (ad 26), .ref (ad 27)]) (sQv D cl_all 52 ad (g1 cy ad z0) sz (g1 cy ad zz)) 0 0 (va_A (wl 52 ad (g1 cy ad z0)) sz) := by
  refine Met.ofW (cc := c_E_solveScaled) (maxL := 5) (ret := none) (by decide) rfl ?_
  intro p e s m args below meth c s₁ B hml hv
  obtain ⟨rfl, hsz, hP, hK, hN, hD0⟩ := hv
  have hx := B.exec
  have hb := B.bytes
  have hr := B.returns
  have hts := atoms_spec (ws := (Cond.code y_E_solveScaled c_E_solveScaled 5 none :: gt_ws)) B.pre
  have ht : ∀ w ∈ gt_ws, w.before _ s = true := fun w h => hts w (List.mem_cons_of_mem _ h)
  have hown : s.vm.findClass RQ_E = some m.cls := findClass_of_methodNamed B.named
  have hlocks := B.notSynchronized
  subst hsz
  have hD1 := hD0.self (sz := s.heap.size)
  obtain ⟨A, hAe⟩ : ∃ A, A = va_A (wl 52 ad (g1 cy ad z0)) s.heap.size := ⟨_, rfl⟩
  rw [← hAe] at hD1
  have hD : ∀ g, va_D A (wl 52 ad g) := fun _ => wl_D hD1
  have hA : ∀ q : Nat, s.heap.size ≤ q → A q := fun q h => by rw [hAe]; exact Or.inr h
  have hS : va_S A s.heap s.heap [] := va_S.rf
  have hl := lv_entry ([.ref (ad 3), .ref (ad 26), .ref (ad 27)]) (n := 5) (Nat.le_of_ble_eq_true rfl)
  rw [lg_entry_eq]
  generalize (lg_sl ([.ref (ad 3), .ref (ad 26), .ref (ad 27)]) ++ List.replicate (5 - (lg_sl ([.ref (ad 3), .ref (ad 26), .ref (ad 27)])).length) Slot.unset).toArray = ls at hl ⊢
  have hl : lv_has ls 5 [(0, .ref (ad 3)), (1, .ref (ad 26)), (2, .ref (ad 27))] := hl
  have L_83 : ∀ (n : Nat) (z : gS) (x3 : Int32) (z9 : gS), l_E_solveScaled_26_27_83 n z x3 = some z9 → ∀ (H : Heap) (locs : List Loc) (ls : Array Slot), va_P D cl_all (wl 52 ad (g1 cy ad z)) H → va_S A s.heap H locs → lv_has ls 5 [(0, .ref (ad 3)), (2, .ref (ad 27)), (3, .int x3)] →
      (∀ (H : Heap) (locs : List Loc) (ls : Array Slot), va_P D cl_all (wl 52 ad (g1 cy ad z9)) H → va_S A s.heap H locs → lv_has ls 5 [] → W p l e (headSpec (Cond.code y_E_solveScaled c_E_solveScaled 5 none :: gt_ws) ({ frames := 2, cells := 0, slots := 0, locals := 90 })).room s m ([.ref (ad 3), .ref (ad 26), .ref (ad 27)]).toArray below meth c H locs 0 0 (MQ below (sQv D cl_all 52 ad (g1 cy ad z0) s.heap.size (g1 cy ad zz)) ([.ref (ad 3), .ref (ad 26), .ref (ad 27)]).toArray s 0 0 (va_A (wl 52 ad (g1 cy ad z0)) s.heap.size)) (F0 m 104 ls [])) →
      W p l e (headSpec (Cond.code y_E_solveScaled c_E_solveScaled 5 none :: gt_ws) ({ frames := 2, cells := 0, slots := 0, locals := 90 })).room s m ([.ref (ad 3), .ref (ad 26), .ref (ad 27)]).toArray below meth c H locs 0 0 (MQ below (sQv D cl_all 52 ad (g1 cy ad z0) s.heap.size (g1 cy ad zz)) ([.ref (ad 3), .ref (ad 26), .ref (ad 27)]).toArray s 0 0 (va_A (wl 52 ad (g1 cy ad z0)) s.heap.size)) (F0 m 83 ls []) := by
    intro n
    induction n with
    | zero => intro z x3 z9 hf; rw [l_E_solveScaled_26_27_83] at hf; cases hf
    | succ n ih =>
      intro z x3 z9 hf H locs ls hP hS hl k_0
      rw [l_E_solveScaled_26_27_83] at hf
      refine lv_iload_n hx hb d_E_solveScaled_83 rfl (lv_at hl 2 rfl) ?_
      refine lv_aload_n hx hb d_E_solveScaled_84 rfl (lv_at hl 0 rfl) ?_
      refine wx_get (v := .int (z.1 6)) (C := RQ_E) (T := FQ_E) (N := 7) hx hb ht IQ_E hown hK hP 3 (by decide) (e_g1_3 cy ad _) rfl 2 (by decide) (ht _ kw_170) (fun _ h9 => h9) rfl d_E_solveScaled_85 ?_
      refine lv_icmp_ge (tgt := 104) hx hb d_E_solveScaled_88 (by decide) (fun c1 => ?_) (fun c1 => ?_)
      ·
        have hf := op_pos hf c1
        cases hf
        exact k_0 _ _ _ hP hS (lv_sub hl [] rfl)
      ·
        have hf := op_neg hf c1
        refine lv_aload_n hx hb d_E_solveScaled_91 rfl (lv_at hl 1 rfl) ?_
        refine lv_iload_n hx hb d_E_solveScaled_92 rfl (lv_at hl 2 rfl) ?_
        refine lv_aload_n hx hb d_E_solveScaled_93 rfl (lv_at hl 1 rfl) ?_
        refine lv_iload_n hx hb d_E_solveScaled_94 rfl (lv_at hl 2 rfl) ?_
        obtain ⟨h2, hf⟩ := op_chk hf
        refine wx_lald hx hb hK hP 27 (by decide) (by decide) 10 rfl h2 d_E_solveScaled_95 ?_
        refine lv_lneg hx hb d_E_solveScaled_96 ?_
        obtain ⟨h3, hf⟩ := op_chk hf
        refine wx_last hx hb hK hP (hD _) hS 27 (by decide) (by decide) 10 rfl h3 d_E_solveScaled_97 (fun H locs hP hS => ?_)
        obtain ⟨w4, h5, hf⟩ := op_let hf
        rw [h5] at hP
        refine lv_iinc (v := x3 + (1 : Int32)) (lv' := [(3, .int (x3 + (1 : Int32))), (0, .ref (ad 3)), (2, .ref (ad 27))]) hx hb d_E_solveScaled_98 hl (k := 2) rfl rfl (by decide) rfl (fun ls hl => ?_)
        refine lv_goto (tgt := 83) hx hb d_E_solveScaled_101 (by decide) ?_
        exact ih _ _ _ hf _ _ _ hP hS (lv_sub hl [1, 2, 0] rfl) k_0
  have L_33 : ∀ (n : Nat) (z : gS) (x3 : Int32) (x4 : Int32) (y3 : Int32) (z9 : gS), l_E_solveScaled_26_27_33 n z x3 x4 = some (y3, z9) → ∀ (H : Heap) (locs : List Loc) (ls : Array Slot), va_P D cl_all (wl 52 ad (g1 cy ad z)) H → va_S A s.heap H locs → lv_has ls 5 [(0, .ref (ad 3)), (1, .ref (ad 26)), (2, .ref (ad 27)), (3, .int x3), (4, .int x4)] →
      (∀ (H : Heap) (locs : List Loc) (ls : Array Slot), va_P D cl_all (wl 52 ad (g1 cy ad z9)) H → va_S A s.heap H locs → lv_has ls 5 [(0, .ref (ad 3)), (1, .ref (ad 26)), (2, .ref (ad 27)), (3, .int y3)] → W p l e (headSpec (Cond.code y_E_solveScaled c_E_solveScaled 5 none :: gt_ws) ({ frames := 2, cells := 0, slots := 0, locals := 90 })).room s m ([.ref (ad 3), .ref (ad 26), .ref (ad 27)]).toArray below meth c H locs 0 0 (MQ below (sQv D cl_all 52 ad (g1 cy ad z0) s.heap.size (g1 cy ad zz)) ([.ref (ad 3), .ref (ad 26), .ref (ad 27)]).toArray s 0 0 (va_A (wl 52 ad (g1 cy ad z0)) s.heap.size)) (F0 m 66 ls [])) →
      W p l e (headSpec (Cond.code y_E_solveScaled c_E_solveScaled 5 none :: gt_ws) ({ frames := 2, cells := 0, slots := 0, locals := 90 })).room s m ([.ref (ad 3), .ref (ad 26), .ref (ad 27)]).toArray below meth c H locs 0 0 (MQ below (sQv D cl_all 52 ad (g1 cy ad z0) s.heap.size (g1 cy ad zz)) ([.ref (ad 3), .ref (ad 26), .ref (ad 27)]).toArray s 0 0 (va_A (wl 52 ad (g1 cy ad z0)) s.heap.size)) (F0 m 33 ls []) := by
    intro n
    induction n with
    | zero => intro z x3 x4 y3 z9 hf; rw [l_E_solveScaled_26_27_33] at hf; cases hf
    | succ n ih =>
      intro z x3 x4 y3 z9 hf H locs ls hP hS hl k_0
      rw [l_E_solveScaled_26_27_33] at hf
      refine lv_iload hx hb d_E_solveScaled_33 (lv_at hl 4 rfl) ?_
      refine lv_aload_n hx hb d_E_solveScaled_35 rfl (lv_at hl 0 rfl) ?_
      refine wx_get (v := .int (z.1 6)) (C := RQ_E) (T := FQ_E) (N := 7) hx hb ht IQ_E hown hK hP 3 (by decide) (e_g1_3 cy ad _) rfl 2 (by decide) (ht _ kw_170) (fun _ h9 => h9) rfl d_E_solveScaled_36 ?_
      refine lv_icmp_ge (tgt := 66) hx hb d_E_solveScaled_39 (by decide) (fun c6 => ?_) (fun c6 => ?_)
      ·
        have hf := op_pos hf c6
        cases hf
        exact k_0 _ _ _ hP hS (lv_sub hl [0, 1, 2, 3] rfl)
      ·
        have hf := op_neg hf c6
        refine lv_aload_n hx hb d_E_solveScaled_42 rfl (lv_at hl 2 rfl) ?_
        refine lv_iload hx hb d_E_solveScaled_43 (lv_at hl 4 rfl) ?_
        refine lv_dup2_11 hx hb d_E_solveScaled_45 rfl rfl ?_
        obtain ⟨h7, hf⟩ := op_chk hf
        refine wx_lald hx hb hK hP 27 (by decide) (by decide) 10 rfl h7 d_E_solveScaled_46 ?_
        refine lv_aload_n hx hb d_E_solveScaled_47 rfl (lv_at hl 0 rfl) ?_
        refine wx_get (v := .ref (ad 20)) (C := RQ_E) (T := FQ_E) (N := 7) hx hb ht IQ_E hown hK hP 3 (by decide) (e_g1_3 cy ad _) rfl 3 (by decide) (ht _ kw_171) (fun _ h9 => h9) rfl d_E_solveScaled_48 ?_
        refine lv_iload_n hx hb d_E_solveScaled_51 rfl (lv_at hl 3 rfl) ?_
        obtain ⟨h8, hf⟩ := op_chk hf
        refine wx_lald hx hb hK hP 20 (by decide) (by decide) 11 rfl h8 d_E_solveScaled_52 ?_
        refine lv_aload_n hx hb d_E_solveScaled_53 rfl (lv_at hl 1 rfl) ?_
        refine lv_iload hx hb d_E_solveScaled_54 (lv_at hl 4 rfl) ?_
        obtain ⟨h9, hf⟩ := op_chk hf
        refine wx_lald hx hb hK hP 26 (by decide) (by decide) 10 rfl h9 d_E_solveScaled_56 ?_
        refine lv_lmul hx hb d_E_solveScaled_57 ?_
        refine lv_ladd hx hb d_E_solveScaled_58 ?_
        obtain ⟨h10, hf⟩ := op_chk hf
        refine wx_last hx hb hK hP (hD _) hS 27 (by decide) (by decide) 10 rfl h10 d_E_solveScaled_59 (fun H locs hP hS => ?_)
        obtain ⟨w11, h12, hf⟩ := op_let hf
        rw [h12] at hP
        refine lv_iinc (v := x4 + (1 : Int32)) (lv' := [(4, .int (x4 + (1 : Int32))), (0, .ref (ad 3)), (1, .ref (ad 26)), (2, .ref (ad 27)), (3, .int x3)]) hx hb d_E_solveScaled_60 hl (k := 4) rfl rfl (by decide) rfl (fun ls hl => ?_)
        refine lv_goto (tgt := 33) hx hb d_E_solveScaled_63 (by decide) ?_
        exact ih _ _ _ _ _ hf _ _ _ hP hS (lv_sub hl [1, 2, 3, 4, 0] rfl) k_0
  have L_13 : ∀ (n : Nat) (z : gS) (x3 : Int32) (z9 : gS), l_E_solveScaled_26_27_13 n z x3 = some z9 → ∀ (H : Heap) (locs : List Loc) (ls : Array Slot), va_P D cl_all (wl 52 ad (g1 cy ad z)) H → va_S A s.heap H locs → lv_has ls 5 [(0, .ref (ad 3)), (1, .ref (ad 26)), (2, .ref (ad 27)), (3, .int x3)] →
      (∀ (H : Heap) (locs : List Loc) (ls : Array Slot), va_P D cl_all (wl 52 ad (g1 cy ad z9)) H → va_S A s.heap H locs → lv_has ls 5 [(0, .ref (ad 3)), (2, .ref (ad 27))] → W p l e (headSpec (Cond.code y_E_solveScaled c_E_solveScaled 5 none :: gt_ws) ({ frames := 2, cells := 0, slots := 0, locals := 90 })).room s m ([.ref (ad 3), .ref (ad 26), .ref (ad 27)]).toArray below meth c H locs 0 0 (MQ below (sQv D cl_all 52 ad (g1 cy ad z0) s.heap.size (g1 cy ad zz)) ([.ref (ad 3), .ref (ad 26), .ref (ad 27)]).toArray s 0 0 (va_A (wl 52 ad (g1 cy ad z0)) s.heap.size)) (F0 m 72 ls [])) →
      W p l e (headSpec (Cond.code y_E_solveScaled c_E_solveScaled 5 none :: gt_ws) ({ frames := 2, cells := 0, slots := 0, locals := 90 })).room s m ([.ref (ad 3), .ref (ad 26), .ref (ad 27)]).toArray below meth c H locs 0 0 (MQ below (sQv D cl_all 52 ad (g1 cy ad z0) s.heap.size (g1 cy ad zz)) ([.ref (ad 3), .ref (ad 26), .ref (ad 27)]).toArray s 0 0 (va_A (wl 52 ad (g1 cy ad z0)) s.heap.size)) (F0 m 13 ls []) := by
    intro n
    induction n with
    | zero => intro z x3 z9 hf; rw [l_E_solveScaled_26_27_13] at hf; cases hf
    | succ n ih =>
      intro z x3 z9 hf H locs ls hP hS hl k_0
      rw [l_E_solveScaled_26_27_13] at hf
      refine lv_iload_n hx hb d_E_solveScaled_13 rfl (lv_at hl 3 rfl) ?_
      refine lv_aload_n hx hb d_E_solveScaled_14 rfl (lv_at hl 0 rfl) ?_
      refine wx_get (v := .int (z.1 6)) (C := RQ_E) (T := FQ_E) (N := 7) hx hb ht IQ_E hown hK hP 3 (by decide) (e_g1_3 cy ad _) rfl 2 (by decide) (ht _ kw_170) (fun _ h9 => h9) rfl d_E_solveScaled_15 ?_
      refine lv_icmp_ge (tgt := 72) hx hb d_E_solveScaled_18 (by decide) (fun c13 => ?_) (fun c13 => ?_)
      ·
        have hf := op_pos hf c13
        cases hf
        exact k_0 _ _ _ hP hS (lv_sub hl [0, 2] rfl)
      ·
        have hf := op_neg hf c13
        refine lv_aload_n hx hb d_E_solveScaled_21 rfl (lv_at hl 0 rfl) ?_
        refine lv_aload_n hx hb d_E_solveScaled_22 rfl (lv_at hl 2 rfl) ?_
        refine lv_aload_n hx hb d_E_solveScaled_23 rfl (lv_at hl 0 rfl) ?_
        refine wx_get (v := .int (z.1 6)) (C := RQ_E) (T := FQ_E) (N := 7) hx hb ht IQ_E hown hK hP 3 (by decide) (e_g1_3 cy ad _) rfl 2 (by decide) (ht _ kw_170) (fun _ h9 => h9) rfl d_E_solveScaled_24 ?_
        obtain ⟨w15, hc14, hf⟩ := op_b1 hf
        refine wx_fv (wx_rV (As := [.ref (ad 27), .int (z.1 6)]) (rest := []) ⟨hx, hb, hml, hown, ht⟩ (m_E_multiply_27 l D cy ad _ z (z.1 6) _ hc14) ⟨callB_of 2 ht (gt_in (fun _ h9 => h9) kw_409) rfl rfl rfl (ht _ kw_50) (ht _ kw_406) q_E_multiply ⟨Nat.le_of_ble_eq_true rfl, Nat.le_of_ble_eq_true rfl⟩, ht _ kw_408, ht _ kw_16⟩ nwC_ok hN hK hP (hD _) (by decide) (e_g1_3 cy ad _) rfl rfl hl.1 rfl (Nat.le_of_ble_eq_true rfl) d_E_solveScaled_27 ⟨Nat.zero_le _, Nat.zero_le _⟩) (hD _) hS hA (fun H locs hP hS => ?_)
        refine lv_iconst (v := 0) hx hb d_E_solveScaled_30 (by decide) ?_
        refine lv_istore (lv' := [(4, .int (0 : Int32)), (0, .ref (ad 3)), (1, .ref (ad 26)), (2, .ref (ad 27)), (3, .int x3)]) hx hb d_E_solveScaled_31 hl (by decide) rfl (fun ls hl => ?_)
        obtain ⟨v16, w17, hc18, hf⟩ := op_b2 hf
        refine L_33 _ _ _ _ _ _ hc18 _ _ _ hP hS (lv_sub hl [1, 2, 3, 4, 0] rfl) (fun H locs ls hP hS hl => ?_)
        refine lv_iinc (v := v16 + (1 : Int32)) (lv' := [(3, .int (v16 + (1 : Int32))), (0, .ref (ad 3)), (1, .ref (ad 26)), (2, .ref (ad 27))]) hx hb d_E_solveScaled_66 hl (k := 3) rfl rfl (by decide) rfl (fun ls hl => ?_)
        refine lv_goto (tgt := 13) hx hb d_E_solveScaled_69 (by decide) ?_
        exact ih _ _ _ hf _ _ _ hP hS (lv_sub hl [1, 2, 3, 0] rfl) k_0
  unfold f_E_solveScaled_26_27 at hf
  refine lv_aload_n hx hb d_E_solveScaled_0 rfl (lv_at hl 1 rfl) ?_
  refine lv_iconst (v := 0) hx hb d_E_solveScaled_1 (by decide) ?_
  refine lv_aload_n hx hb d_E_solveScaled_2 rfl (lv_at hl 2 rfl) ?_
  refine lv_iconst (v := 0) hx hb d_E_solveScaled_3 (by decide) ?_
  refine lv_aload_n hx hb d_E_solveScaled_4 rfl (lv_at hl 0 rfl) ?_
  refine wx_get (v := .int (z0.1 6)) (C := RQ_E) (T := FQ_E) (N := 7) hx hb ht IQ_E hown hK hP 3 (by decide) (e_g1_3 cy ad _) rfl 2 (by decide) (ht _ kw_170) (fun _ h9 => h9) rfl d_E_solveScaled_5 ?_
  obtain ⟨h19, hf⟩ := op_chk hf
  refine wx_copyl hx hb (hml.trans hl.1.symm) hown (ht _ kw_410) (ht _ kw_412) (ht _ kw_411) (ht _ kw_56) hK hP (hD _) hS 26 27 (by decide) (by decide) (by decide) (by decide) 10 10 rfl rfl h19 (Nat.le_of_ble_eq_true rfl) (by decide +kernel) d_E_solveScaled_8 (fun H locs hP hS => ?_)
  obtain ⟨w20, h21, hf⟩ := op_let hf
  rw [h21] at hP
  refine lv_iconst (v := 1) hx hb d_E_solveScaled_11 (by decide) ?_
  refine lv_istore_n (lv' := [(3, .int (1 : Int32)), (0, .ref (ad 3)), (1, .ref (ad 26)), (2, .ref (ad 27))]) hx hb d_E_solveScaled_12 rfl hl (by decide) rfl (fun ls hl => ?_)
  obtain ⟨w22, hc23, hf⟩ := op_b1 hf
  refine L_13 _ _ _ _ hc23 _ _ _ hP hS (lv_sub hl [1, 2, 3, 0] rfl) (fun H locs ls hP hS hl => ?_)
  refine lv_aload_n hx hb d_E_solveScaled_72 rfl (lv_at hl 0 rfl) ?_
  refine wx_get (v := .int (w22.1 6)) (C := RQ_E) (T := FQ_E) (N := 7) hx hb ht IQ_E hown hK hP 3 (by decide) (e_g1_3 cy ad _) rfl 2 (by decide) (ht _ kw_170) (fun _ h9 => h9) rfl d_E_solveScaled_73 ?_
  refine lv_iconst (v := 2) hx hb d_E_solveScaled_76 (by decide) ?_
  refine lv_irem hx hb d_E_solveScaled_77 (by decide) ?_
  refine lv_if_ne (tgt := 104) hx hb d_E_solveScaled_78 (by decide) (fun c24 => ?_) (fun c24 => ?_)
  ·
    have hf := op_neg hf c24
    obtain rfl := Option.some.inj hf
    exact wx_vret hx hb hr hlocks hAe hP hS d_E_solveScaled_104
  ·
    have hf := op_pos hf c24
    refine lv_iconst (v := 0) hx hb d_E_solveScaled_81 (by decide) ?_
    refine lv_istore_n (lv' := [(3, .int (0 : Int32)), (0, .ref (ad 3)), (2, .ref (ad 27))]) hx hb d_E_solveScaled_82 rfl hl (by decide) rfl (fun ls hl => ?_)
    obtain ⟨w25, hc26, hf⟩ := op_b1 hf
    refine L_83 _ _ _ _ hc26 _ _ _ hP hS (lv_sub hl [1, 2, 0] rfl) (fun H locs ls hP hS hl => ?_)
    obtain rfl := Option.some.inj hf
    exact wx_vret hx hb hr hlocks hAe hP hS d_E_solveScaled_104

def l_R_respond_1_2_3_40 : Nat → gS → Int32 → Option (gS)
  | 0, _, _ => none
  | n + 1, z, x4 =>
    if (z.1 5) ≤ x4 then (some z)
     else (if x4 < 0 ∨ 10 ≤ x4.toNatClampNeg then none else
     if x4 < 0 ∨ 10 ≤ x4.toNatClampNeg then none else
     if (z.2.2.1 15 x4.toNatClampNeg) < 0 ∨ 10 ≤ (z.2.2.1 15 x4.toNatClampNeg).toNatClampNeg then none else
     (some (s_J z 25 (vp_updL (z.2.2.2 25) (z.2.2.1 15 x4.toNatClampNeg).toNatClampNeg (z.2.2.2 27 x4.toNatClampNeg)))).bind (fun w5 =>
     l_R_respond_1_2_3_40 n w5 (x4 + (1 : Int32))))
def f_R_respond_1_2_3 (z0 : gS) : Option gS :=
 bd2 (f_E_wholeMinor z0) (fun r9 w8 =>
 (some (s_l w8 0 r9)).bind (fun w10 =>
 bd1 (f_R_sumUpLoads_1 w10) (fun w13 =>
 bd1 (f_R_moveHeldSlots_1 w13) (fun w15 =>
 bd1 (f_R_findRightSide_1_2_3 w15) (fun w17 =>
 bd1 (f_E_solveScaled_26_27 w17) (fun w19 =>
 bd1 (l_R_respond_1_2_3_40 200 w19 (0 : Int32)) (fun w20 =>
 some w20)))))))
set_option maxHeartbeats 4000000 in
set_option maxRecDepth 100000 in
theorem m_R_respond_1_2_3 (l : Launch) (D : va_G) (cy : Nat → ClassId) (ad : Nat → Nat) (sz : Nat) (z0 : gS) (zz : gS) (hf : f_R_respond_1_2_3 z0 = some zz) : Met l y_R_respond (Cond.code y_R_respond c_R_respond 5 none :: gt_ws) ({ frames := 3, cells := 0, slots := 0, locals := 135 }) (sPc D cl_all (gTy cy) nwC 52 ad (g1 cy ad z0) sz [.ref (ad 4), .ref (ad 1), .ref (ad 2), .ref (ad 3)]) (sQv D cl_all 52 ad (g1 cy ad z0) sz (g1 cy ad zz)) 0 0 (va_A (wl 52 ad (g1 cy ad z0)) sz) := by
  refine Met.ofW (cc := c_R_respond) (maxL := 5) (ret := none) (by decide) rfl ?_
  intro p e s m args below meth c s₁ B hml hv
  obtain ⟨rfl, hsz, hP, hK, hN, hD0⟩ := hv
  have hx := B.exec
  have hb := B.bytes
  have hr := B.returns
  have hts := atoms_spec (ws := (Cond.code y_R_respond c_R_respond 5 none :: gt_ws)) B.pre
  have ht : ∀ w ∈ gt_ws, w.before _ s = true := fun w h => hts w (List.mem_cons_of_mem _ h)
  have hown : s.vm.findClass RQ_R = some m.cls := findClass_of_methodNamed B.named
  have hlocks := B.notSynchronized
  subst hsz
  have hD1 := hD0.self (sz := s.heap.size)
  obtain ⟨A, hAe⟩ : ∃ A, A = va_A (wl 52 ad (g1 cy ad z0)) s.heap.size := ⟨_, rfl⟩
  rw [← hAe] at hD1
  have hD : ∀ g, va_D A (wl 52 ad g) := fun _ => wl_D hD1
  have hA : ∀ q : Nat, s.heap.size ≤ q → A q := fun q h => by rw [hAe]; exact Or.inr h
  have hS : va_S A s.heap s.heap [] := va_S.rf
  have hl := lv_entry ([.ref (ad 4), .ref (ad 1), .ref (ad 2), .ref (ad 3)]) (n := 5) (Nat.le_of_ble_eq_true rfl)
  rw [lg_entry_eq]
  generalize (lg_sl ([.ref (ad 4), .ref (ad 1), .ref (ad 2), .ref (ad 3)]) ++ List.replicate (5 - (lg_sl ([.ref (ad 4), .ref (ad 1), .ref (ad 2), .ref (ad 3)])).length) Slot.unset).toArray = ls at hl ⊢
  have hl : lv_has ls 5 [(0, .ref (ad 4)), (1, .ref (ad 1)), (2, .ref (ad 2)), (3, .ref (ad 3))] := hl
  have L_40 : ∀ (n : Nat) (z : gS) (x4 : Int32) (z9 : gS), l_R_respond_1_2_3_40 n z x4 = some z9 → ∀ (H : Heap) (locs : List Loc) (ls : Array Slot), va_P D cl_all (wl 52 ad (g1 cy ad z)) H → va_S A s.heap H locs → lv_has ls 5 [(0, .ref (ad 4)), (2, .ref (ad 2)), (4, .int x4)] →
      (∀ (H : Heap) (locs : List Loc) (ls : Array Slot), va_P D cl_all (wl 52 ad (g1 cy ad z9)) H → va_S A s.heap H locs → lv_has ls 5 [] → W p l e (headSpec (Cond.code y_R_respond c_R_respond 5 none :: gt_ws) ({ frames := 3, cells := 0, slots := 0, locals := 135 })).room s m ([.ref (ad 4), .ref (ad 1), .ref (ad 2), .ref (ad 3)]).toArray below meth c H locs 0 0 (MQ below (sQv D cl_all 52 ad (g1 cy ad z0) s.heap.size (g1 cy ad zz)) ([.ref (ad 4), .ref (ad 1), .ref (ad 2), .ref (ad 3)]).toArray s 0 0 (va_A (wl 52 ad (g1 cy ad z0)) s.heap.size)) (F0 m 74 ls [])) →
      W p l e (headSpec (Cond.code y_R_respond c_R_respond 5 none :: gt_ws) ({ frames := 3, cells := 0, slots := 0, locals := 135 })).room s m ([.ref (ad 4), .ref (ad 1), .ref (ad 2), .ref (ad 3)]).toArray below meth c H locs 0 0 (MQ below (sQv D cl_all 52 ad (g1 cy ad z0) s.heap.size (g1 cy ad zz)) ([.ref (ad 4), .ref (ad 1), .ref (ad 2), .ref (ad 3)]).toArray s 0 0 (va_A (wl 52 ad (g1 cy ad z0)) s.heap.size)) (F0 m 40 ls []) := by
    intro n
    induction n with
    | zero => intro z x4 z9 hf; rw [l_R_respond_1_2_3_40] at hf; cases hf
    | succ n ih =>
      intro z x4 z9 hf H locs ls hP hS hl k_0
      rw [l_R_respond_1_2_3_40] at hf
      refine lv_iload hx hb d_R_respond_40 (lv_at hl 2 rfl) ?_
      refine lv_aload_n hx hb d_R_respond_42 rfl (lv_at hl 1 rfl) ?_
      refine wx_get (v := .int (z.1 5)) (C := RQ_N) (T := FQ_N) (N := 7) hx hb ht IQ_N hown hK hP 2 (by decide) (e_g1_2 cy ad _) rfl 6 (by decide) (ht _ kw_142) (fun _ h9 => h9) rfl d_R_respond_43 ?_
      refine lv_icmp_ge (tgt := 74) hx hb d_R_respond_46 (by decide) (fun c1 => ?_) (fun c1 => ?_)
      ·
        have hf := op_pos hf c1
        cases hf
        exact k_0 _ _ _ hP hS (lv_sub hl [] rfl)
      ·
        have hf := op_neg hf c1
        refine lv_aload_n hx hb d_R_respond_49 rfl (lv_at hl 0 rfl) ?_
        refine wx_get (v := .ref (ad 25)) (C := RQ_R) (T := FQ_R) (N := 6) hx hb ht IQ_R hown hK hP 4 (by decide) (e_g1_4 cy ad _) rfl 2 (by decide) (ht _ kw_199) (fun _ h9 => h9) rfl d_R_respond_50 ?_
        refine lv_aload_n hx hb d_R_respond_53 rfl (lv_at hl 1 rfl) ?_
        refine wx_get (v := .ref (ad 15)) (C := RQ_N) (T := FQ_N) (N := 7) hx hb ht IQ_N hown hK hP 2 (by decide) (e_g1_2 cy ad _) rfl 5 (by decide) (ht _ kw_139) (fun _ h9 => h9) rfl d_R_respond_54 ?_
        refine lv_iload hx hb d_R_respond_57 (lv_at hl 2 rfl) ?_
        obtain ⟨h2, hf⟩ := op_chk hf
        refine wx_iald hx hb hK hP 15 (by decide) (by decide) 10 rfl h2 d_R_respond_59 ?_
        refine lv_aload_n hx hb d_R_respond_60 rfl (lv_at hl 0 rfl) ?_
        refine wx_get (v := .ref (ad 27)) (C := RQ_R) (T := FQ_R) (N := 6) hx hb ht IQ_R hown hK hP 4 (by decide) (e_g1_4 cy ad _) rfl 4 (by decide) (ht _ kw_202) (fun _ h9 => h9) rfl d_R_respond_61 ?_
        refine lv_iload hx hb d_R_respond_64 (lv_at hl 2 rfl) ?_
        obtain ⟨h3, hf⟩ := op_chk hf
        refine wx_lald hx hb hK hP 27 (by decide) (by decide) 10 rfl h3 d_R_respond_66 ?_
        obtain ⟨h4, hf⟩ := op_chk hf
        refine wx_last hx hb hK hP (hD _) hS 25 (by decide) (by decide) 10 rfl h4 d_R_respond_67 (fun H locs hP hS => ?_)
        obtain ⟨w5, h6, hf⟩ := op_let hf
        rw [h6] at hP
        refine lv_iinc (v := x4 + (1 : Int32)) (lv' := [(4, .int (x4 + (1 : Int32))), (0, .ref (ad 4)), (2, .ref (ad 2))]) hx hb d_R_respond_68 hl (k := 2) rfl rfl (by decide) rfl (fun ls hl => ?_)
        refine lv_goto (tgt := 40) hx hb d_R_respond_71 (by decide) ?_
        exact ih _ _ _ hf _ _ _ hP hS (lv_sub hl [1, 2, 0] rfl) k_0
  unfold f_R_respond_1_2_3 at hf
  refine lv_aload_n hx hb d_R_respond_0 rfl (lv_at hl 0 rfl) ?_
  refine lv_aload_n hx hb d_R_respond_1 rfl (lv_at hl 3 rfl) ?_
  obtain ⟨r9, w8, hc7, hf⟩ := op_b2 hf
  refine wx_fl (wx_rV (As := []) (rest := [.ref (ad 4)]) ⟨hx, hb, hml, hown, ht⟩ (m_E_wholeMinor l D cy ad _ z0 _ _ hc7) ⟨callB_of 0 ht (gt_in (fun _ h9 => h9) kw_445) rfl rfl rfl (ht _ kw_50) (ht _ kw_442) q_E_wholeMinor ⟨Nat.le_of_ble_eq_true rfl, Nat.le_of_ble_eq_true rfl⟩, ht _ kw_443, ht _ kw_444⟩ nwC_ok hN hK hP (hD _) (by decide) (e_g1_3 cy ad _) rfl rfl hl.1 rfl (Nat.le_of_ble_eq_true rfl) d_R_respond_2 ⟨Nat.zero_le _, Nat.zero_le _⟩) (hD _) hS hA (fun H locs hP hS => ?_)
  refine wx_put (v := .long r9) (ty := .long) (C := RQ_R) (T := FQ_R) (N := 6) hx hb ht IQ_R TQ_R TQ_R_ok NQ_R hown hK hP (hD _) hS 4 (by decide) (e_g1_4 cy ad _) rfl 5 (by decide) (ht _ kw_203) (fun _ h9 => h9) rfl (by decide +kernel) rfl rfl (Nat.le_of_ble_eq_true rfl) d_R_respond_5 (up_R_scale cy ad _ r9) (fun H locs hP hS => ?_)
  obtain ⟨w10, h11, hf⟩ := op_let hf
  rw [h11] at hP
  refine lv_aload_n hx hb d_R_respond_8 rfl (lv_at hl 0 rfl) ?_
  refine lv_aload_n hx hb d_R_respond_9 rfl (lv_at hl 1 rfl) ?_
  obtain ⟨w13, hc12, hf⟩ := op_b1 hf
  refine wx_fv (wx_rV (As := [.ref (ad 1)]) (rest := []) ⟨hx, hb, hml, hown, ht⟩ (m_R_sumUpLoads_1 l D cy ad _ w10 _ hc12) ⟨callB_of 1 ht (gt_in (fun _ h9 => h9) kw_449) rfl rfl rfl (ht _ kw_51) (ht _ kw_446) q_R_sumUpLoads ⟨Nat.le_of_ble_eq_true rfl, Nat.le_of_ble_eq_true rfl⟩, ht _ kw_448, ht _ kw_19⟩ nwC_ok hN hK hP (hD _) (by decide) (e_g1_4 cy ad _) rfl rfl hl.1 rfl (Nat.le_of_ble_eq_true rfl) d_R_respond_10 ⟨Nat.zero_le _, Nat.zero_le _⟩) (hD _) hS hA (fun H locs hP hS => ?_)
  refine lv_aload_n hx hb d_R_respond_13 rfl (lv_at hl 0 rfl) ?_
  refine lv_aload_n hx hb d_R_respond_14 rfl (lv_at hl 1 rfl) ?_
  obtain ⟨w15, hc14, hf⟩ := op_b1 hf
  refine wx_fv (wx_rV (As := [.ref (ad 1)]) (rest := []) ⟨hx, hb, hml, hown, ht⟩ (m_R_moveHeldSlots_1 l D cy ad _ w13 _ hc14) ⟨callB_of 1 ht (gt_in (fun _ h9 => h9) kw_453) rfl rfl rfl (ht _ kw_51) (ht _ kw_450) q_R_moveHeldSlots ⟨Nat.le_of_ble_eq_true rfl, Nat.le_of_ble_eq_true rfl⟩, ht _ kw_452, ht _ kw_20⟩ nwC_ok hN hK hP (hD _) (by decide) (e_g1_4 cy ad _) rfl rfl hl.1 rfl (Nat.le_of_ble_eq_true rfl) d_R_respond_15 ⟨Nat.zero_le _, Nat.zero_le _⟩) (hD _) hS hA (fun H locs hP hS => ?_)
  refine lv_aload_n hx hb d_R_respond_18 rfl (lv_at hl 0 rfl) ?_
  refine lv_aload_n hx hb d_R_respond_19 rfl (lv_at hl 1 rfl) ?_
  refine lv_aload_n hx hb d_R_respond_20 rfl (lv_at hl 2 rfl) ?_
  refine lv_aload_n hx hb d_R_respond_21 rfl (lv_at hl 3 rfl) ?_
  obtain ⟨w17, hc16, hf⟩ := op_b1 hf
  refine wx_fv (wx_rV (As := [.ref (ad 1), .ref (ad 2), .ref (ad 3)]) (rest := []) ⟨hx, hb, hml, hown, ht⟩ (m_R_findRightSide_1_2_3 l D cy ad _ w15 _ hc16) ⟨callB_of 3 ht (gt_in (fun _ h9 => h9) kw_461) rfl rfl rfl (ht _ kw_51) (ht _ kw_458) q_R_findRightSide ⟨Nat.le_of_ble_eq_true rfl, Nat.le_of_ble_eq_true rfl⟩, ht _ kw_460, ht _ kw_22⟩ nwC_ok hN hK hP (hD _) (by decide) (e_g1_4 cy ad _) rfl rfl hl.1 rfl (Nat.le_of_ble_eq_true rfl) d_R_respond_22 ⟨Nat.zero_le _, Nat.zero_le _⟩) (hD _) hS hA (fun H locs hP hS => ?_)
  refine lv_aload_n hx hb d_R_respond_25 rfl (lv_at hl 3 rfl) ?_
  refine lv_aload_n hx hb d_R_respond_26 rfl (lv_at hl 0 rfl) ?_
  refine wx_get (v := .ref (ad 26)) (C := RQ_R) (T := FQ_R) (N := 6) hx hb ht IQ_R hown hK hP 4 (by decide) (e_g1_4 cy ad _) rfl 3 (by decide) (ht _ kw_201) (fun _ h9 => h9) rfl d_R_respond_27 ?_
  refine lv_aload_n hx hb d_R_respond_30 rfl (lv_at hl 0 rfl) ?_
  refine wx_get (v := .ref (ad 27)) (C := RQ_R) (T := FQ_R) (N := 6) hx hb ht IQ_R hown hK hP 4 (by decide) (e_g1_4 cy ad _) rfl 4 (by decide) (ht _ kw_202) (fun _ h9 => h9) rfl d_R_respond_31 ?_
  obtain ⟨w19, hc18, hf⟩ := op_b1 hf
  refine wx_fv (wx_rV (As := [.ref (ad 26), .ref (ad 27)]) (rest := []) ⟨hx, hb, hml, hown, ht⟩ (m_E_solveScaled_26_27 l D cy ad _ w17 _ hc18) ⟨callB_of 2 ht (gt_in (fun _ h9 => h9) kw_465) rfl rfl rfl (ht _ kw_50) (ht _ kw_462) q_E_solveScaled ⟨Nat.le_of_ble_eq_true rfl, Nat.le_of_ble_eq_true rfl⟩, ht _ kw_463, ht _ kw_464⟩ nwC_ok hN hK hP (hD _) (by decide) (e_g1_3 cy ad _) rfl rfl hl.1 rfl (Nat.le_of_ble_eq_true rfl) d_R_respond_34 ⟨Nat.zero_le _, Nat.zero_le _⟩) (hD _) hS hA (fun H locs hP hS => ?_)
  refine lv_iconst (v := 0) hx hb d_R_respond_37 (by decide) ?_
  refine lv_istore (lv' := [(4, .int (0 : Int32)), (0, .ref (ad 4)), (1, .ref (ad 1)), (2, .ref (ad 2)), (3, .ref (ad 3))]) hx hb d_R_respond_38 hl (by decide) rfl (fun ls hl => ?_)
  obtain ⟨w20, hc21, hf⟩ := op_b1 hf
  refine L_40 _ _ _ _ hc21 _ _ _ hP hS (lv_sub hl [1, 3, 0] rfl) (fun H locs ls hP hS hl => ?_)
  obtain rfl := Option.some.inj hf
  exact wx_vret hx hb hr hlocks hAe hP hS d_R_respond_74
