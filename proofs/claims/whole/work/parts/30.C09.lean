def l_E_multiply_22_2 : Nat → gS → Int32 → Int32 → Option (Int32 × gS)
  | 0, _, _, _ => none
  | n + 1, z, x2, x3 =>
    if x2 ≤ x3 then (some (x2, z))
     else (bd2 (f_E_rowTimes_22 z x3 x2) (fun r4 w3 =>
     if x3 < 0 ∨ 10 ≤ x3.toNatClampNeg then none else
     (some (s_J w3 23 (vp_updL (w3.2.2.2 23) x3.toNatClampNeg r4))).bind (fun w6 =>
     l_E_multiply_22_2 n w6 x2 (x3 + (1 : Int32)))))
def f_E_multiply_22 (z0 : gS) (p2 : Int32) : Option gS :=
 bd2 (l_E_multiply_22_2 200 z0 p2 (0 : Int32)) (fun v8 w9 =>
 if (0 : Int32) < 0 ∨ (0 : Int32) < 0 ∨ v8 < 0 ∨ 10 < (0 : Int32).toNatClampNeg + v8.toNatClampNeg ∨ 10 < (0 : Int32).toNatClampNeg + v8.toNatClampNeg then none else
 (some (s_J w9 22 (va_cpy (w9.2.2.2 23) (w9.2.2.2 22) (0 : Int32).toNatClampNeg (0 : Int32).toNatClampNeg v8.toNatClampNeg))).bind (fun w12 =>
 some w12))
set_option maxHeartbeats 4000000 in
set_option maxRecDepth 100000 in
theorem m_E_multiply_22 (l : Launch) (D : va_G) (cy : Nat → ClassId) (ad : Nat → Nat) (sz : Nat) (z0 : gS) (p2 : Int32) (zz : gS) (hf : f_E_multiply_22 z0 p2 = some zz) : Met l y_E_multiply (Cond.code y_E_multiply c_E_multiply 4 none :: gt_ws) ({ frames := 1, cells := 0, slots := 0, locals := 45 }) (sPc D cl_all (gTy cy) nwC 52 ad (g1 cy ad z0) sz [.ref (ad 3), .ref (ad 22), .int p2]) (sQv D cl_all 52 ad (g1 cy ad z0) sz (g1 cy ad zz)) 0 0 (va_A (wl 52 ad (g1 cy ad z0)) sz) := by
  refine Met.ofW (cc := c_E_multiply) (maxL := 4) (ret := none) (by decide) rfl ?_
  intro p e s m args below meth c s₁ B hml hv
  obtain ⟨rfl, hsz, hP, hK, hN, hD0⟩ := hv
  have hx := B.exec
  have hb := B.bytes
  have hr := B.returns
  have hts := atoms_spec (ws := (Cond.code y_E_multiply c_E_multiply 4 none :: gt_ws)) B.pre
  have ht : ∀ w ∈ gt_ws, w.before _ s = true := fun w h => hts w (List.mem_cons_of_mem _ h)
  have hown : s.vm.findClass RQ_E = some m.cls := findClass_of_methodNamed B.named
  have hlocks := B.notSynchronized
  subst hsz
  have hD1 := hD0.self (sz := s.heap.size)
  obtain ⟨A, hAe⟩ : ∃ A, A = va_A (wl 52 ad (g1 cy ad z0)) s.heap.size := ⟨_, rfl⟩
  rw [← hAe] at hD1
  have hD : ∀ g, va_D A (wl 52 ad g) := fun _ => wl_D hD1
  have hA : ∀ q : Nat, s.heap.size ≤ q → A q := fun q h => by rw [hAe]; exact Or.inr h
  have hS : va_S A s.heap s.heap [] := va_S.rf
  have hl := lv_entry ([.ref (ad 3), .ref (ad 22), .int p2]) (n := 4) (Nat.le_of_ble_eq_true rfl)
  rw [lg_entry_eq]
  generalize (lg_sl ([.ref (ad 3), .ref (ad 22), .int p2]) ++ List.replicate (4 - (lg_sl ([.ref (ad 3), .ref (ad 22), .int p2])).length) Slot.unset).toArray = ls at hl ⊢
  have hl : lv_has ls 4 [(0, .ref (ad 3)), (1, .ref (ad 22)), (2, .int p2)] := hl
  have L_2 : ∀ (n : Nat) (z : gS) (x2 : Int32) (x3 : Int32) (y2 : Int32) (z9 : gS), l_E_multiply_22_2 n z x2 x3 = some (y2, z9) → ∀ (H : Heap) (locs : List Loc) (ls : Array Slot), va_P D cl_all (wl 52 ad (g1 cy ad z)) H → va_S A s.heap H locs → lv_has ls 4 [(0, .ref (ad 3)), (1, .ref (ad 22)), (2, .int x2), (3, .int x3)] →
      (∀ (H : Heap) (locs : List Loc) (ls : Array Slot), va_P D cl_all (wl 52 ad (g1 cy ad z9)) H → va_S A s.heap H locs → lv_has ls 4 [(0, .ref (ad 3)), (1, .ref (ad 22)), (2, .int y2)] → W p l e (headSpec (Cond.code y_E_multiply c_E_multiply 4 none :: gt_ws) ({ frames := 1, cells := 0, slots := 0, locals := 45 })).room s m ([.ref (ad 3), .ref (ad 22), .int p2]).toArray below meth c H locs 0 0 (MQ below (sQv D cl_all 52 ad (g1 cy ad z0) s.heap.size (g1 cy ad zz)) ([.ref (ad 3), .ref (ad 22), .int p2]).toArray s 0 0 (va_A (wl 52 ad (g1 cy ad z0)) s.heap.size)) (F0 m 26 ls [])) →
      W p l e (headSpec (Cond.code y_E_multiply c_E_multiply 4 none :: gt_ws) ({ frames := 1, cells := 0, slots := 0, locals := 45 })).room s m ([.ref (ad 3), .ref (ad 22), .int p2]).toArray below meth c H locs 0 0 (MQ below (sQv D cl_all 52 ad (g1 cy ad z0) s.heap.size (g1 cy ad zz)) ([.ref (ad 3), .ref (ad 22), .int p2]).toArray s 0 0 (va_A (wl 52 ad (g1 cy ad z0)) s.heap.size)) (F0 m 2 ls []) := by
    intro n
    induction n with
    | zero => intro z x2 x3 y2 z9 hf; rw [l_E_multiply_22_2] at hf; cases hf
    | succ n ih =>
      intro z x2 x3 y2 z9 hf H locs ls hP hS hl k_0
      rw [l_E_multiply_22_2] at hf
      refine lv_iload_n hx hb d_E_multiply_2 rfl (lv_at hl 3 rfl) ?_
      refine lv_iload_n hx hb d_E_multiply_3 rfl (lv_at hl 2 rfl) ?_
      refine lv_icmp_ge (tgt := 26) hx hb d_E_multiply_4 (by decide) (fun c1 => ?_) (fun c1 => ?_)
      ·
        have hf := op_pos hf c1
        cases hf
        exact k_0 _ _ _ hP hS (lv_sub hl [0, 1, 2] rfl)
      ·
        have hf := op_neg hf c1
        refine lv_aload_n hx hb d_E_multiply_7 rfl (lv_at hl 0 rfl) ?_
        refine wx_get (v := .ref (ad 23)) (C := RQ_E) (T := FQ_E) (N := 7) hx hb ht IQ_E hown hK hP 3 (by decide) (e_g1_3 cy ad _) rfl 6 (by decide) (ht _ kw_174) (fun _ h9 => h9) rfl d_E_multiply_8 ?_
        refine lv_iload_n hx hb d_E_multiply_11 rfl (lv_at hl 3 rfl) ?_
        refine lv_aload_n hx hb d_E_multiply_12 rfl (lv_at hl 0 rfl) ?_
        refine lv_iload_n hx hb d_E_multiply_13 rfl (lv_at hl 3 rfl) ?_
        refine lv_aload_n hx hb d_E_multiply_14 rfl (lv_at hl 1 rfl) ?_
        refine lv_iload_n hx hb d_E_multiply_15 rfl (lv_at hl 2 rfl) ?_
        obtain ⟨r4, w3, hc2, hf⟩ := op_b2 hf
        refine wx_fl (wx_rV (As := [.int x3, .ref (ad 22), .int x2]) (rest := [.int x3, .ref (ad 23)]) ⟨hx, hb, hml, hown, ht⟩ (m_E_rowTimes_22 l D cy ad _ z x3 x2 _ _ hc2) ⟨callB_of 3 ht (gt_in (fun _ h9 => h9) kw_405) rfl rfl rfl (ht _ kw_50) (ht _ kw_402) q_E_rowTimes ⟨Nat.le_of_ble_eq_true rfl, Nat.le_of_ble_eq_true rfl⟩, ht _ kw_404, ht _ kw_15⟩ nwC_ok hN hK hP (hD _) (by decide) (e_g1_3 cy ad _) rfl rfl hl.1 rfl (Nat.le_of_ble_eq_true rfl) d_E_multiply_16 ⟨Nat.zero_le _, Nat.zero_le _⟩) (hD _) hS hA (fun H locs hP hS => ?_)
        obtain ⟨h5, hf⟩ := op_chk hf
        refine wx_last hx hb hK hP (hD _) hS 23 (by decide) (by decide) 10 rfl h5 d_E_multiply_19 (fun H locs hP hS => ?_)
        obtain ⟨w6, h7, hf⟩ := op_let hf
        rw [h7] at hP
        refine lv_iinc (v := x3 + (1 : Int32)) (lv' := [(3, .int (x3 + (1 : Int32))), (0, .ref (ad 3)), (1, .ref (ad 22)), (2, .int x2)]) hx hb d_E_multiply_20 hl (k := 3) rfl rfl (by decide) rfl (fun ls hl => ?_)
        refine lv_goto (tgt := 2) hx hb d_E_multiply_23 (by decide) ?_
        exact ih _ _ _ _ _ hf _ _ _ hP hS (lv_sub hl [1, 2, 3, 0] rfl) k_0
  unfold f_E_multiply_22 at hf
  refine lv_iconst (v := 0) hx hb d_E_multiply_0 (by decide) ?_
  refine lv_istore_n (lv' := [(3, .int (0 : Int32)), (0, .ref (ad 3)), (1, .ref (ad 22)), (2, .int p2)]) hx hb d_E_multiply_1 rfl hl (by decide) rfl (fun ls hl => ?_)
  obtain ⟨v8, w9, hc10, hf⟩ := op_b2 hf
  refine L_2 _ _ _ _ _ _ hc10 _ _ _ hP hS (lv_sub hl [1, 2, 3, 0] rfl) (fun H locs ls hP hS hl => ?_)
  refine lv_aload_n hx hb d_E_multiply_26 rfl (lv_at hl 0 rfl) ?_
  refine wx_get (v := .ref (ad 23)) (C := RQ_E) (T := FQ_E) (N := 7) hx hb ht IQ_E hown hK hP 3 (by decide) (e_g1_3 cy ad _) rfl 6 (by decide) (ht _ kw_174) (fun _ h9 => h9) rfl d_E_multiply_27 ?_
  refine lv_iconst (v := 0) hx hb d_E_multiply_30 (by decide) ?_
  refine lv_aload_n hx hb d_E_multiply_31 rfl (lv_at hl 1 rfl) ?_
  refine lv_iconst (v := 0) hx hb d_E_multiply_32 (by decide) ?_
  refine lv_iload_n hx hb d_E_multiply_33 rfl (lv_at hl 2 rfl) ?_
  obtain ⟨h11, hf⟩ := op_chk hf
  refine wx_copyl hx hb (hml.trans hl.1.symm) hown (ht _ kw_410) (ht _ kw_412) (ht _ kw_411) (ht _ kw_56) hK hP (hD _) hS 23 22 (by decide) (by decide) (by decide) (by decide) 10 10 rfl rfl h11 (Nat.le_of_ble_eq_true rfl) (by decide +kernel) d_E_multiply_34 (fun H locs hP hS => ?_)
  obtain ⟨w12, h13, hf⟩ := op_let hf
  rw [h13] at hP
  obtain rfl := Option.some.inj hf
  exact wx_vret hx hb hr hlocks hAe hP hS d_E_multiply_37

def l_E_findGrowth_24 : Nat → gS → Int32 → Int32 → Option (Int32 × gS)
  | 0, _, _, _ => none
  | n + 1, z, x1, x2 =>
    if x1 ≤ x2 then (some (x1, z))
     else (if x2 < 0 ∨ 10 ≤ x2.toNatClampNeg then none else
     if x1 < 0 ∨ 10 ≤ x1.toNatClampNeg then none else
     if x2 < 0 ∨ 10 ≤ x2.toNatClampNeg then none else
     (some (s_J z 22 (vp_updL (z.2.2.2 22) x2.toNatClampNeg (z.2.2.2 (x2.toNatClampNeg + 42) x1.toNatClampNeg)))).bind (fun w5 =>
     l_E_findGrowth_24 n w5 x1 (x2 + (1 : Int32))))
def l_E_findGrowth_51 : Nat → gS → Int32 → Int32 → Option (gS)
  | 0, _, _, _ => none
  | n + 1, z, x1, x2 =>
    if (x1 + (1 : Int32)) < x2 then (some z)
     else (bd2 (f_E_rowTimes_22 z x1 x1) (fun r10 w9 =>
     if x2 < 0 ∨ 11 ≤ x2.toNatClampNeg then none else
     (some (s_J w9 21 (vp_updL (w9.2.2.2 21) x2.toNatClampNeg (-r10)))).bind (fun w12 =>
     bd1 (f_E_multiply_22 w12 x1) (fun w15 =>
     l_E_findGrowth_51 n w15 x1 (x2 + (1 : Int32))))))
def f_E_findGrowth (z0 : gS) (p1 : Int32) : Option gS :=
 if (0 : Int32) < 0 ∨ 11 ≤ (0 : Int32).toNatClampNeg then none else
 (some (s_J z0 21 (vp_updL (z0.2.2.2 21) (0 : Int32).toNatClampNeg (1 : Int64)))).bind (fun w17 =>
 if p1 < 0 ∨ 10 ≤ p1.toNatClampNeg then none else
 if p1 < 0 ∨ 10 ≤ p1.toNatClampNeg then none else
 if (1 : Int32) < 0 ∨ 11 ≤ (1 : Int32).toNatClampNeg then none else
 (some (s_J w17 21 (vp_updL (w17.2.2.2 21) (1 : Int32).toNatClampNeg (-(w17.2.2.2 (p1.toNatClampNeg + 42) p1.toNatClampNeg))))).bind (fun w22 =>
 bd2 (l_E_findGrowth_24 200 w22 p1 (0 : Int32)) (fun v24 w25 =>
 bd1 (l_E_findGrowth_51 200 w25 v24 (2 : Int32)) (fun w27 =>
 some w27))))
set_option maxHeartbeats 4000000 in
set_option maxRecDepth 100000 in
theorem m_E_findGrowth (l : Launch) (D : va_G) (cy : Nat → ClassId) (ad : Nat → Nat) (sz : Nat) (z0 : gS) (p1 : Int32) (zz : gS) (hf : f_E_findGrowth z0 p1 = some zz) : Met l y_E_findGrowth (Cond.code y_E_findGrowth c_E_findGrowth 3 none :: gt_ws) ({ frames := 2, cells := 0, slots := 0, locals := 90 }) (sPc D cl_all (gTy cy) nwC 52 ad (g1 cy ad z0) sz [.ref (ad 3), .int p1]) (sQv D cl_all 52 ad (g1 cy ad z0) sz (g1 cy ad zz)) 0 0 (va_A (wl 52 ad (g1 cy ad z0)) sz) := by
  refine Met.ofW (cc := c_E_findGrowth) (maxL := 3) (ret := none) (by decide) rfl ?_
  intro p e s m args below meth c s₁ B hml hv
  obtain ⟨rfl, hsz, hP, hK, hN, hD0⟩ := hv
  have hx := B.exec
  have hb := B.bytes
  have hr := B.returns
  have hts := atoms_spec (ws := (Cond.code y_E_findGrowth c_E_findGrowth 3 none :: gt_ws)) B.pre
  have ht : ∀ w ∈ gt_ws, w.before _ s = true := fun w h => hts w (List.mem_cons_of_mem _ h)
  have hown : s.vm.findClass RQ_E = some m.cls := findClass_of_methodNamed B.named
  have hlocks := B.notSynchronized
  subst hsz
  have hD1 := hD0.self (sz := s.heap.size)
  obtain ⟨A, hAe⟩ : ∃ A, A = va_A (wl 52 ad (g1 cy ad z0)) s.heap.size := ⟨_, rfl⟩
  rw [← hAe] at hD1
  have hD : ∀ g, va_D A (wl 52 ad g) := fun _ => wl_D hD1
  have hA : ∀ q : Nat, s.heap.size ≤ q → A q := fun q h => by rw [hAe]; exact Or.inr h
  have hS : va_S A s.heap s.heap [] := va_S.rf
  have hl := lv_entry ([.ref (ad 3), .int p1]) (n := 3) (Nat.le_of_ble_eq_true rfl)
  rw [lg_entry_eq]
  generalize (lg_sl ([.ref (ad 3), .int p1]) ++ List.replicate (3 - (lg_sl ([.ref (ad 3), .int p1])).length) Slot.unset).toArray = ls at hl ⊢
  have hl : lv_has ls 3 [(0, .ref (ad 3)), (1, .int p1)] := hl
  have L_24 : ∀ (n : Nat) (z : gS) (x1 : Int32) (x2 : Int32) (y1 : Int32) (z9 : gS), l_E_findGrowth_24 n z x1 x2 = some (y1, z9) → ∀ (H : Heap) (locs : List Loc) (ls : Array Slot), va_P D cl_all (wl 52 ad (g1 cy ad z)) H → va_S A s.heap H locs → lv_has ls 3 [(0, .ref (ad 3)), (1, .int x1), (2, .int x2)] →
      (∀ (H : Heap) (locs : List Loc) (ls : Array Slot), va_P D cl_all (wl 52 ad (g1 cy ad z9)) H → va_S A s.heap H locs → lv_has ls 3 [(0, .ref (ad 3)), (1, .int y1)] → W p l e (headSpec (Cond.code y_E_findGrowth c_E_findGrowth 3 none :: gt_ws) ({ frames := 2, cells := 0, slots := 0, locals := 90 })).room s m ([.ref (ad 3), .int p1]).toArray below meth c H locs 0 0 (MQ below (sQv D cl_all 52 ad (g1 cy ad z0) s.heap.size (g1 cy ad zz)) ([.ref (ad 3), .int p1]).toArray s 0 0 (va_A (wl 52 ad (g1 cy ad z0)) s.heap.size)) (F0 m 49 ls [])) →
      W p l e (headSpec (Cond.code y_E_findGrowth c_E_findGrowth 3 none :: gt_ws) ({ frames := 2, cells := 0, slots := 0, locals := 90 })).room s m ([.ref (ad 3), .int p1]).toArray below meth c H locs 0 0 (MQ below (sQv D cl_all 52 ad (g1 cy ad z0) s.heap.size (g1 cy ad zz)) ([.ref (ad 3), .int p1]).toArray s 0 0 (va_A (wl 52 ad (g1 cy ad z0)) s.heap.size)) (F0 m 24 ls []) := by
    intro n
    induction n with
    | zero => intro z x1 x2 y1 z9 hf; rw [l_E_findGrowth_24] at hf; cases hf
    | succ n ih =>
      intro z x1 x2 y1 z9 hf H locs ls hP hS hl k_0
      rw [l_E_findGrowth_24] at hf
      refine lv_iload_n hx hb d_E_findGrowth_24 rfl (lv_at hl 2 rfl) ?_
      refine lv_iload_n hx hb d_E_findGrowth_25 rfl (lv_at hl 1 rfl) ?_
      refine lv_icmp_ge (tgt := 49) hx hb d_E_findGrowth_26 (by decide) (fun c1 => ?_) (fun c1 => ?_)
      ·
        have hf := op_pos hf c1
        cases hf
        exact k_0 _ _ _ hP hS (lv_sub hl [0, 1] rfl)
      ·
        have hf := op_neg hf c1
        refine lv_aload_n hx hb d_E_findGrowth_29 rfl (lv_at hl 0 rfl) ?_
        refine wx_get (v := .ref (ad 22)) (C := RQ_E) (T := FQ_E) (N := 7) hx hb ht IQ_E hown hK hP 3 (by decide) (e_g1_3 cy ad _) rfl 5 (by decide) (ht _ kw_173) (fun _ h9 => h9) rfl d_E_findGrowth_30 ?_
        refine lv_iload_n hx hb d_E_findGrowth_33 rfl (lv_at hl 2 rfl) ?_
        refine lv_aload_n hx hb d_E_findGrowth_34 rfl (lv_at hl 0 rfl) ?_
        refine wx_get (v := .ref (ad 19)) (C := RQ_E) (T := FQ_E) (N := 7) hx hb ht IQ_E hown hK hP 3 (by decide) (e_g1_3 cy ad _) rfl 1 (by decide) (ht _ kw_169) (fun _ h9 => h9) rfl d_E_findGrowth_35 ?_
        refine lv_iload_n hx hb d_E_findGrowth_38 rfl (lv_at hl 2 rfl) ?_
        obtain ⟨h2, hf⟩ := op_chk hf
        refine wx_aald (b := ad (x2.toNatClampNeg + 42)) hx hb hK hP 19 4 (by decide) (e_g1_19 cy ad _) rfl h2 (if_pos (r42_lt h2)) d_E_findGrowth_39 ?_
        refine lv_iload_n hx hb d_E_findGrowth_40 rfl (lv_at hl 1 rfl) ?_
        obtain ⟨h3, hf⟩ := op_chk hf
        refine wx_lald hx hb hK hP (x2.toNatClampNeg + 42) (r42 h2).1 (r42 h2).2.1 10 (r42 h2).2.2 h3 d_E_findGrowth_41 ?_
        obtain ⟨h4, hf⟩ := op_chk hf
        refine wx_last hx hb hK hP (hD _) hS 22 (by decide) (by decide) 10 rfl h4 d_E_findGrowth_42 (fun H locs hP hS => ?_)
        obtain ⟨w5, h6, hf⟩ := op_let hf
        rw [h6] at hP
        refine lv_iinc (v := x2 + (1 : Int32)) (lv' := [(2, .int (x2 + (1 : Int32))), (0, .ref (ad 3)), (1, .int x1)]) hx hb d_E_findGrowth_43 hl (k := 2) rfl rfl (by decide) rfl (fun ls hl => ?_)
        refine lv_goto (tgt := 24) hx hb d_E_findGrowth_46 (by decide) ?_
        exact ih _ _ _ _ _ hf _ _ _ hP hS (lv_sub hl [1, 2, 0] rfl) k_0
  have L_51 : ∀ (n : Nat) (z : gS) (x1 : Int32) (x2 : Int32) (z9 : gS), l_E_findGrowth_51 n z x1 x2 = some z9 → ∀ (H : Heap) (locs : List Loc) (ls : Array Slot), va_P D cl_all (wl 52 ad (g1 cy ad z)) H → va_S A s.heap H locs → lv_has ls 3 [(0, .ref (ad 3)), (1, .int x1), (2, .int x2)] →
      (∀ (H : Heap) (locs : List Loc) (ls : Array Slot), va_P D cl_all (wl 52 ad (g1 cy ad z9)) H → va_S A s.heap H locs → lv_has ls 3 [] → W p l e (headSpec (Cond.code y_E_findGrowth c_E_findGrowth 3 none :: gt_ws) ({ frames := 2, cells := 0, slots := 0, locals := 90 })).room s m ([.ref (ad 3), .int p1]).toArray below meth c H locs 0 0 (MQ below (sQv D cl_all 52 ad (g1 cy ad z0) s.heap.size (g1 cy ad zz)) ([.ref (ad 3), .int p1]).toArray s 0 0 (va_A (wl 52 ad (g1 cy ad z0)) s.heap.size)) (F0 m 90 ls [])) →
      W p l e (headSpec (Cond.code y_E_findGrowth c_E_findGrowth 3 none :: gt_ws) ({ frames := 2, cells := 0, slots := 0, locals := 90 })).room s m ([.ref (ad 3), .int p1]).toArray below meth c H locs 0 0 (MQ below (sQv D cl_all 52 ad (g1 cy ad z0) s.heap.size (g1 cy ad zz)) ([.ref (ad 3), .int p1]).toArray s 0 0 (va_A (wl 52 ad (g1 cy ad z0)) s.heap.size)) (F0 m 51 ls []) := by
    intro n
    induction n with
    | zero => intro z x1 x2 z9 hf; rw [l_E_findGrowth_51] at hf; cases hf
    | succ n ih =>
      intro z x1 x2 z9 hf H locs ls hP hS hl k_0
      rw [l_E_findGrowth_51] at hf
      refine lv_iload_n hx hb d_E_findGrowth_51 rfl (lv_at hl 2 rfl) ?_
      refine lv_iload_n hx hb d_E_findGrowth_52 rfl (lv_at hl 1 rfl) ?_
      refine lv_iconst (v := 1) hx hb d_E_findGrowth_53 (by decide) ?_
      refine lv_iadd hx hb d_E_findGrowth_54 ?_
      refine lv_icmp_gt (tgt := 90) hx hb d_E_findGrowth_55 (by decide) (fun c7 => ?_) (fun c7 => ?_)
      ·
        have hf := op_pos hf c7
        cases hf
        exact k_0 _ _ _ hP hS (lv_sub hl [] rfl)
      ·
        have hf := op_neg hf c7
        refine lv_aload_n hx hb d_E_findGrowth_58 rfl (lv_at hl 0 rfl) ?_
        refine wx_get (v := .ref (ad 21)) (C := RQ_E) (T := FQ_E) (N := 7) hx hb ht IQ_E hown hK hP 3 (by decide) (e_g1_3 cy ad _) rfl 4 (by decide) (ht _ kw_172) (fun _ h9 => h9) rfl d_E_findGrowth_59 ?_
        refine lv_iload_n hx hb d_E_findGrowth_62 rfl (lv_at hl 2 rfl) ?_
        refine lv_aload_n hx hb d_E_findGrowth_63 rfl (lv_at hl 0 rfl) ?_
        refine lv_iload_n hx hb d_E_findGrowth_64 rfl (lv_at hl 1 rfl) ?_
        refine lv_aload_n hx hb d_E_findGrowth_65 rfl (lv_at hl 0 rfl) ?_
        refine wx_get (v := .ref (ad 22)) (C := RQ_E) (T := FQ_E) (N := 7) hx hb ht IQ_E hown hK hP 3 (by decide) (e_g1_3 cy ad _) rfl 5 (by decide) (ht _ kw_173) (fun _ h9 => h9) rfl d_E_findGrowth_66 ?_
        refine lv_iload_n hx hb d_E_findGrowth_69 rfl (lv_at hl 1 rfl) ?_
        obtain ⟨r10, w9, hc8, hf⟩ := op_b2 hf
        refine wx_fl (wx_rV (As := [.int x1, .ref (ad 22), .int x1]) (rest := [.int x2, .ref (ad 21)]) ⟨hx, hb, hml, hown, ht⟩ (m_E_rowTimes_22 l D cy ad _ z x1 x1 _ _ hc8) ⟨callB_of 3 ht (gt_in (fun _ h9 => h9) kw_405) rfl rfl rfl (ht _ kw_50) (ht _ kw_402) q_E_rowTimes ⟨Nat.le_of_ble_eq_true rfl, Nat.le_of_ble_eq_true rfl⟩, ht _ kw_404, ht _ kw_15⟩ nwC_ok hN hK hP (hD _) (by decide) (e_g1_3 cy ad _) rfl rfl hl.1 rfl (Nat.le_of_ble_eq_true rfl) d_E_findGrowth_70 ⟨Nat.zero_le _, Nat.zero_le _⟩) (hD _) hS hA (fun H locs hP hS => ?_)
        refine lv_lneg hx hb d_E_findGrowth_73 ?_
        obtain ⟨h11, hf⟩ := op_chk hf
        refine wx_last hx hb hK hP (hD _) hS 21 (by decide) (by decide) 11 rfl h11 d_E_findGrowth_74 (fun H locs hP hS => ?_)
        obtain ⟨w12, h13, hf⟩ := op_let hf
        rw [h13] at hP
        refine lv_aload_n hx hb d_E_findGrowth_75 rfl (lv_at hl 0 rfl) ?_
        refine lv_aload_n hx hb d_E_findGrowth_76 rfl (lv_at hl 0 rfl) ?_
        refine wx_get (v := .ref (ad 22)) (C := RQ_E) (T := FQ_E) (N := 7) hx hb ht IQ_E hown hK hP 3 (by decide) (e_g1_3 cy ad _) rfl 5 (by decide) (ht _ kw_173) (fun _ h9 => h9) rfl d_E_findGrowth_77 ?_
        refine lv_iload_n hx hb d_E_findGrowth_80 rfl (lv_at hl 1 rfl) ?_
        obtain ⟨w15, hc14, hf⟩ := op_b1 hf
        refine wx_fv (wx_rV (As := [.ref (ad 22), .int x1]) (rest := []) ⟨hx, hb, hml, hown, ht⟩ (m_E_multiply_22 l D cy ad _ w12 x1 _ hc14) ⟨callB_of 2 ht (gt_in (fun _ h9 => h9) kw_409) rfl rfl rfl (ht _ kw_50) (ht _ kw_406) q_E_multiply ⟨Nat.le_of_ble_eq_true rfl, Nat.le_of_ble_eq_true rfl⟩, ht _ kw_408, ht _ kw_16⟩ nwC_ok hN hK hP (hD _) (by decide) (e_g1_3 cy ad _) rfl rfl hl.1 rfl (Nat.le_of_ble_eq_true rfl) d_E_findGrowth_81 ⟨Nat.zero_le _, Nat.zero_le _⟩) (hD _) hS hA (fun H locs hP hS => ?_)
        refine lv_iinc (v := x2 + (1 : Int32)) (lv' := [(2, .int (x2 + (1 : Int32))), (0, .ref (ad 3)), (1, .int x1)]) hx hb d_E_findGrowth_84 hl (k := 2) rfl rfl (by decide) rfl (fun ls hl => ?_)
        refine lv_goto (tgt := 51) hx hb d_E_findGrowth_87 (by decide) ?_
        exact ih _ _ _ _ hf _ _ _ hP hS (lv_sub hl [1, 2, 0] rfl) k_0
  unfold f_E_findGrowth at hf
  refine lv_aload_n hx hb d_E_findGrowth_0 rfl (lv_at hl 0 rfl) ?_
  refine wx_get (v := .ref (ad 21)) (C := RQ_E) (T := FQ_E) (N := 7) hx hb ht IQ_E hown hK hP 3 (by decide) (e_g1_3 cy ad _) rfl 4 (by decide) (ht _ kw_172) (fun _ h9 => h9) rfl d_E_findGrowth_1 ?_
  refine lv_iconst (v := 0) hx hb d_E_findGrowth_4 (by decide) ?_
  refine lv_lconst (v := 1) hx hb d_E_findGrowth_5 (by decide) ?_
  obtain ⟨h16, hf⟩ := op_chk hf
  refine wx_last hx hb hK hP (hD _) hS 21 (by decide) (by decide) 11 rfl h16 d_E_findGrowth_6 (fun H locs hP hS => ?_)
  obtain ⟨w17, h18, hf⟩ := op_let hf
  rw [h18] at hP
  refine lv_aload_n hx hb d_E_findGrowth_7 rfl (lv_at hl 0 rfl) ?_
  refine wx_get (v := .ref (ad 21)) (C := RQ_E) (T := FQ_E) (N := 7) hx hb ht IQ_E hown hK hP 3 (by decide) (e_g1_3 cy ad _) rfl 4 (by decide) (ht _ kw_172) (fun _ h9 => h9) rfl d_E_findGrowth_8 ?_
  refine lv_iconst (v := 1) hx hb d_E_findGrowth_11 (by decide) ?_
  refine lv_aload_n hx hb d_E_findGrowth_12 rfl (lv_at hl 0 rfl) ?_
  refine wx_get (v := .ref (ad 19)) (C := RQ_E) (T := FQ_E) (N := 7) hx hb ht IQ_E hown hK hP 3 (by decide) (e_g1_3 cy ad _) rfl 1 (by decide) (ht _ kw_169) (fun _ h9 => h9) rfl d_E_findGrowth_13 ?_
  refine lv_iload_n hx hb d_E_findGrowth_16 rfl (lv_at hl 1 rfl) ?_
  obtain ⟨h19, hf⟩ := op_chk hf
  refine wx_aald (b := ad (p1.toNatClampNeg + 42)) hx hb hK hP 19 4 (by decide) (e_g1_19 cy ad _) rfl h19 (if_pos (r42_lt h19)) d_E_findGrowth_17 ?_
  refine lv_iload_n hx hb d_E_findGrowth_18 rfl (lv_at hl 1 rfl) ?_
  obtain ⟨h20, hf⟩ := op_chk hf
  refine wx_lald hx hb hK hP (p1.toNatClampNeg + 42) (r42 h19).1 (r42 h19).2.1 10 (r42 h19).2.2 h20 d_E_findGrowth_19 ?_
  refine lv_lneg hx hb d_E_findGrowth_20 ?_
  obtain ⟨h21, hf⟩ := op_chk hf
  refine wx_last hx hb hK hP (hD _) hS 21 (by decide) (by decide) 11 rfl h21 d_E_findGrowth_21 (fun H locs hP hS => ?_)
  obtain ⟨w22, h23, hf⟩ := op_let hf
  rw [h23] at hP
  refine lv_iconst (v := 0) hx hb d_E_findGrowth_22 (by decide) ?_
  refine lv_istore_n (lv' := [(2, .int (0 : Int32)), (0, .ref (ad 3)), (1, .int p1)]) hx hb d_E_findGrowth_23 rfl hl (by decide) rfl (fun ls hl => ?_)
  obtain ⟨v24, w25, hc26, hf⟩ := op_b2 hf
  refine L_24 _ _ _ _ _ _ hc26 _ _ _ hP hS (lv_sub hl [1, 2, 0] rfl) (fun H locs ls hP hS hl => ?_)
  refine lv_iconst (v := 2) hx hb d_E_findGrowth_49 (by decide) ?_
  refine lv_istore_n (lv' := [(2, .int (2 : Int32)), (0, .ref (ad 3)), (1, .int v24)]) hx hb d_E_findGrowth_50 rfl hl (by decide) rfl (fun ls hl => ?_)
  obtain ⟨w27, hc28, hf⟩ := op_b1 hf
  refine L_51 _ _ _ _ _ hc28 _ _ _ hP hS (lv_sub hl [1, 2, 0] rfl) (fun H locs ls hP hS hl => ?_)
  obtain rfl := Option.some.inj hf
  exact wx_vret hx hb hr hlocks hAe hP hS d_E_findGrowth_90

def l_E_growPolynomial_27 : Nat → gS → Int32 → Int64 → Int32 → Option (Int32 × Int64 × gS)
  | 0, _, _, _, _ => none
  | n + 1, z, x2, x3, x5 =>
    if x2 < x5 then (some (x2, x3, z))
     else (if x5 < 0 ∨ 11 ≤ x5.toNatClampNeg then none else
     if (x2 - x5) < 0 ∨ 11 ≤ (x2 - x5).toNatClampNeg then none else
     (some ((x3 + ((z.2.2.2 21 x5.toNatClampNeg) * (z.2.2.2 20 (x2 - x5).toNatClampNeg))) : Int64)).bind (fun v4 =>
     l_E_growPolynomial_27 n z x2 v4 (x5 + (1 : Int32))))
def l_E_growPolynomial_18 : Nat → gS → Int32 → Option (gS)
  | 0, _, _ => none
  | n + 1, z, x2 =>
    if x2 < 0 then (some z)
     else (bd3 (l_E_growPolynomial_27 200 z x2 (0 : Int64) (0 : Int32)) (fun v7 v8 w9 =>
     if v7 < 0 ∨ 11 ≤ v7.toNatClampNeg then none else
     (some (s_J w9 20 (vp_updL (w9.2.2.2 20) v7.toNatClampNeg v8))).bind (fun w12 =>
     l_E_growPolynomial_18 n w12 (v7 + (-1 : Int32)))))
def f_E_growPolynomial (z0 : gS) (p1 : Int32) : Option gS :=
 bd1 (f_E_findGrowth z0 p1) (fun w15 =>
 if (p1 + (1 : Int32)) < 0 ∨ 11 ≤ (p1 + (1 : Int32)).toNatClampNeg then none else
 (some (s_J w15 20 (vp_updL (w15.2.2.2 20) (p1 + (1 : Int32)).toNatClampNeg (0 : Int64)))).bind (fun w17 =>
 (some ((p1 + (1 : Int32)) : Int32)).bind (fun v19 =>
 bd1 (l_E_growPolynomial_18 200 w17 v19) (fun w21 =>
 some w21))))
set_option maxHeartbeats 4000000 in
set_option maxRecDepth 100000 in
theorem m_E_growPolynomial (l : Launch) (D : va_G) (cy : Nat → ClassId) (ad : Nat → Nat) (sz : Nat) (z0 : gS) (p1 : Int32) (zz : gS) (hf : f_E_growPolynomial z0 p1 = some zz) : Met l y_E_growPolynomial (Cond.code y_E_growPolynomial c_E_growPolynomial 6 none :: gt_ws) ({ frames := 3, cells := 0, slots := 0, locals := 135 }) (sPc D cl_all (gTy cy) nwC 52 ad (g1 cy ad z0) sz [.ref (ad 3), .int p1]) (sQv D cl_all 52 ad (g1 cy ad z0) sz (g1 cy ad zz)) 0 0 (va_A (wl 52 ad (g1 cy ad z0)) sz) := by
  refine Met.ofW (cc := c_E_growPolynomial) (maxL := 6) (ret := none) (by decide) rfl ?_
  intro p e s m args below meth c s₁ B hml hv
  obtain ⟨rfl, hsz, hP, hK, hN, hD0⟩ := hv
  have hx := B.exec
  have hb := B.bytes
  have hr := B.returns
  have hts := atoms_spec (ws := (Cond.code y_E_growPolynomial c_E_growPolynomial 6 none :: gt_ws)) B.pre
  have ht : ∀ w ∈ gt_ws, w.before _ s = true := fun w h => hts w (List.mem_cons_of_mem _ h)
  have hown : s.vm.findClass RQ_E = some m.cls := findClass_of_methodNamed B.named
  have hlocks := B.notSynchronized
  subst hsz
  have hD1 := hD0.self (sz := s.heap.size)
  obtain ⟨A, hAe⟩ : ∃ A, A = va_A (wl 52 ad (g1 cy ad z0)) s.heap.size := ⟨_, rfl⟩
  rw [← hAe] at hD1
  have hD : ∀ g, va_D A (wl 52 ad g) := fun _ => wl_D hD1
  have hA : ∀ q : Nat, s.heap.size ≤ q → A q := fun q h => by rw [hAe]; exact Or.inr h
  have hS : va_S A s.heap s.heap [] := va_S.rf
  have hl := lv_entry ([.ref (ad 3), .int p1]) (n := 6) (Nat.le_of_ble_eq_true rfl)
  rw [lg_entry_eq]
  generalize (lg_sl ([.ref (ad 3), .int p1]) ++ List.replicate (6 - (lg_sl ([.ref (ad 3), .int p1])).length) Slot.unset).toArray = ls at hl ⊢
  have hl : lv_has ls 6 [(0, .ref (ad 3)), (1, .int p1)] := hl
  have L_27 : ∀ (n : Nat) (z : gS) (x2 : Int32) (x3 : Int64) (x5 : Int32) (y2 : Int32) (y3 : Int64) (z9 : gS), l_E_growPolynomial_27 n z x2 x3 x5 = some (y2, y3, z9) → ∀ (H : Heap) (locs : List Loc) (ls : Array Slot), va_P D cl_all (wl 52 ad (g1 cy ad z)) H → va_S A s.heap H locs → lv_has ls 6 [(0, .ref (ad 3)), (2, .int x2), (3, .long x3), (5, .int x5)] →
      (∀ (H : Heap) (locs : List Loc) (ls : Array Slot), va_P D cl_all (wl 52 ad (g1 cy ad z9)) H → va_S A s.heap H locs → lv_has ls 6 [(0, .ref (ad 3)), (2, .int y2), (3, .long y3)] → W p l e (headSpec (Cond.code y_E_growPolynomial c_E_growPolynomial 6 none :: gt_ws) ({ frames := 3, cells := 0, slots := 0, locals := 135 })).room s m ([.ref (ad 3), .int p1]).toArray below meth c H locs 0 0 (MQ below (sQv D cl_all 52 ad (g1 cy ad z0) s.heap.size (g1 cy ad zz)) ([.ref (ad 3), .int p1]).toArray s 0 0 (va_A (wl 52 ad (g1 cy ad z0)) s.heap.size)) (F0 m 59 ls [])) →
      W p l e (headSpec (Cond.code y_E_growPolynomial c_E_growPolynomial 6 none :: gt_ws) ({ frames := 3, cells := 0, slots := 0, locals := 135 })).room s m ([.ref (ad 3), .int p1]).toArray below meth c H locs 0 0 (MQ below (sQv D cl_all 52 ad (g1 cy ad z0) s.heap.size (g1 cy ad zz)) ([.ref (ad 3), .int p1]).toArray s 0 0 (va_A (wl 52 ad (g1 cy ad z0)) s.heap.size)) (F0 m 27 ls []) := by
    intro n
    induction n with
    | zero => intro z x2 x3 x5 y2 y3 z9 hf; rw [l_E_growPolynomial_27] at hf; cases hf
    | succ n ih =>
      intro z x2 x3 x5 y2 y3 z9 hf H locs ls hP hS hl k_0
      rw [l_E_growPolynomial_27] at hf
      refine lv_iload hx hb d_E_growPolynomial_27 (lv_at hl 3 rfl) ?_
      refine lv_iload_n hx hb d_E_growPolynomial_29 rfl (lv_at hl 1 rfl) ?_
      refine lv_icmp_gt (tgt := 59) hx hb d_E_growPolynomial_30 (by decide) (fun c1 => ?_) (fun c1 => ?_)
      ·
        have hf := op_pos hf c1
        cases hf
        exact k_0 _ _ _ hP hS (lv_sub hl [0, 1, 2] rfl)
      ·
        have hf := op_neg hf c1
        refine lv_lload_n hx hb d_E_growPolynomial_33 rfl (lv_at hl 2 rfl) ?_
        refine lv_aload_n hx hb d_E_growPolynomial_34 rfl (lv_at hl 0 rfl) ?_
        refine wx_get (v := .ref (ad 21)) (C := RQ_E) (T := FQ_E) (N := 7) hx hb ht IQ_E hown hK hP 3 (by decide) (e_g1_3 cy ad _) rfl 4 (by decide) (ht _ kw_172) (fun _ h9 => h9) rfl d_E_growPolynomial_35 ?_
        refine lv_iload hx hb d_E_growPolynomial_38 (lv_at hl 3 rfl) ?_
        obtain ⟨h2, hf⟩ := op_chk hf
        refine wx_lald hx hb hK hP 21 (by decide) (by decide) 11 rfl h2 d_E_growPolynomial_40 ?_
        refine lv_aload_n hx hb d_E_growPolynomial_41 rfl (lv_at hl 0 rfl) ?_
        refine wx_get (v := .ref (ad 20)) (C := RQ_E) (T := FQ_E) (N := 7) hx hb ht IQ_E hown hK hP 3 (by decide) (e_g1_3 cy ad _) rfl 3 (by decide) (ht _ kw_171) (fun _ h9 => h9) rfl d_E_growPolynomial_42 ?_
        refine lv_iload_n hx hb d_E_growPolynomial_45 rfl (lv_at hl 1 rfl) ?_
        refine lv_iload hx hb d_E_growPolynomial_46 (lv_at hl 3 rfl) ?_
        refine lv_isub hx hb d_E_growPolynomial_48 ?_
        obtain ⟨h3, hf⟩ := op_chk hf
        refine wx_lald hx hb hK hP 20 (by decide) (by decide) 11 rfl h3 d_E_growPolynomial_49 ?_
        refine lv_lmul hx hb d_E_growPolynomial_50 ?_
        refine lv_ladd hx hb d_E_growPolynomial_51 ?_
        obtain ⟨v4, h5, hf⟩ := op_let hf
        refine sw_l h5 ?_
        refine lv_lstore_n (lv' := [(3, .long v4), (0, .ref (ad 3)), (2, .int x2), (5, .int x5)]) hx hb d_E_growPolynomial_52 rfl hl (by decide) rfl (fun ls hl => ?_)
        refine lv_iinc (v := x5 + (1 : Int32)) (lv' := [(5, .int (x5 + (1 : Int32))), (3, .long v4), (0, .ref (ad 3)), (2, .int x2)]) hx hb d_E_growPolynomial_53 hl (k := 3) rfl rfl (by decide) rfl (fun ls hl => ?_)
        refine lv_goto (tgt := 27) hx hb d_E_growPolynomial_56 (by decide) ?_
        exact ih _ _ _ _ _ _ _ hf _ _ _ hP hS (lv_sub hl [2, 3, 1, 0] rfl) k_0
  have L_18 : ∀ (n : Nat) (z : gS) (x2 : Int32) (z9 : gS), l_E_growPolynomial_18 n z x2 = some z9 → ∀ (H : Heap) (locs : List Loc) (ls : Array Slot), va_P D cl_all (wl 52 ad (g1 cy ad z)) H → va_S A s.heap H locs → lv_has ls 6 [(0, .ref (ad 3)), (2, .int x2)] →
      (∀ (H : Heap) (locs : List Loc) (ls : Array Slot), va_P D cl_all (wl 52 ad (g1 cy ad z9)) H → va_S A s.heap H locs → lv_has ls 6 [] → W p l e (headSpec (Cond.code y_E_growPolynomial c_E_growPolynomial 6 none :: gt_ws) ({ frames := 3, cells := 0, slots := 0, locals := 135 })).room s m ([.ref (ad 3), .int p1]).toArray below meth c H locs 0 0 (MQ below (sQv D cl_all 52 ad (g1 cy ad z0) s.heap.size (g1 cy ad zz)) ([.ref (ad 3), .int p1]).toArray s 0 0 (va_A (wl 52 ad (g1 cy ad z0)) s.heap.size)) (F0 m 72 ls [])) →
      W p l e (headSpec (Cond.code y_E_growPolynomial c_E_growPolynomial 6 none :: gt_ws) ({ frames := 3, cells := 0, slots := 0, locals := 135 })).room s m ([.ref (ad 3), .int p1]).toArray below meth c H locs 0 0 (MQ below (sQv D cl_all 52 ad (g1 cy ad z0) s.heap.size (g1 cy ad zz)) ([.ref (ad 3), .int p1]).toArray s 0 0 (va_A (wl 52 ad (g1 cy ad z0)) s.heap.size)) (F0 m 18 ls []) := by
    intro n
    induction n with
    | zero => intro z x2 z9 hf; rw [l_E_growPolynomial_18] at hf; cases hf
    | succ n ih =>
      intro z x2 z9 hf H locs ls hP hS hl k_0
      rw [l_E_growPolynomial_18] at hf
      refine lv_iload_n hx hb d_E_growPolynomial_18 rfl (lv_at hl 1 rfl) ?_
      refine lv_if_lt (tgt := 72) hx hb d_E_growPolynomial_19 (by decide) (fun c6 => ?_) (fun c6 => ?_)
      ·
        have hf := op_pos hf c6
        cases hf
        exact k_0 _ _ _ hP hS (lv_sub hl [] rfl)
      ·
        have hf := op_neg hf c6
        refine lv_lconst (v := 0) hx hb d_E_growPolynomial_22 (by decide) ?_
        refine lv_lstore_n (lv' := [(3, .long (0 : Int64)), (0, .ref (ad 3)), (2, .int x2)]) hx hb d_E_growPolynomial_23 rfl hl (by decide) rfl (fun ls hl => ?_)
        refine lv_iconst (v := 0) hx hb d_E_growPolynomial_24 (by decide) ?_
        refine lv_istore (lv' := [(5, .int (0 : Int32)), (3, .long (0 : Int64)), (0, .ref (ad 3)), (2, .int x2)]) hx hb d_E_growPolynomial_25 hl (by decide) rfl (fun ls hl => ?_)
        obtain ⟨v7, v8, w9, hc10, hf⟩ := op_b3 hf
        refine L_27 _ _ _ _ _ _ _ _ hc10 _ _ _ hP hS (lv_sub hl [2, 3, 1, 0] rfl) (fun H locs ls hP hS hl => ?_)
        refine lv_aload_n hx hb d_E_growPolynomial_59 rfl (lv_at hl 0 rfl) ?_
        refine wx_get (v := .ref (ad 20)) (C := RQ_E) (T := FQ_E) (N := 7) hx hb ht IQ_E hown hK hP 3 (by decide) (e_g1_3 cy ad _) rfl 3 (by decide) (ht _ kw_171) (fun _ h9 => h9) rfl d_E_growPolynomial_60 ?_
        refine lv_iload_n hx hb d_E_growPolynomial_63 rfl (lv_at hl 1 rfl) ?_
        refine lv_lload_n hx hb d_E_growPolynomial_64 rfl (lv_at hl 2 rfl) ?_
        obtain ⟨h11, hf⟩ := op_chk hf
        refine wx_last hx hb hK hP (hD _) hS 20 (by decide) (by decide) 11 rfl h11 d_E_growPolynomial_65 (fun H locs hP hS => ?_)
        obtain ⟨w12, h13, hf⟩ := op_let hf
        rw [h13] at hP
        refine lv_iinc (v := v7 + (-1 : Int32)) (lv' := [(2, .int (v7 + (-1 : Int32))), (0, .ref (ad 3)), (3, .long v8)]) hx hb d_E_growPolynomial_66 hl (k := 1) rfl rfl (by decide) rfl (fun ls hl => ?_)
        refine lv_goto (tgt := 18) hx hb d_E_growPolynomial_69 (by decide) ?_
        exact ih _ _ _ hf _ _ _ hP hS (lv_sub hl [1, 0] rfl) k_0
  unfold f_E_growPolynomial at hf
  refine lv_aload_n hx hb d_E_growPolynomial_0 rfl (lv_at hl 0 rfl) ?_
  refine lv_iload_n hx hb d_E_growPolynomial_1 rfl (lv_at hl 1 rfl) ?_
  obtain ⟨w15, hc14, hf⟩ := op_b1 hf
  refine wx_fv (wx_rV (As := [.int p1]) (rest := []) ⟨hx, hb, hml, hown, ht⟩ (m_E_findGrowth l D cy ad _ z0 p1 _ hc14) ⟨callB_of 1 ht (gt_in (fun _ h9 => h9) kw_401) rfl rfl rfl (ht _ kw_50) (ht _ kw_398) q_E_findGrowth ⟨Nat.le_of_ble_eq_true rfl, Nat.le_of_ble_eq_true rfl⟩, ht _ kw_400, ht _ kw_14⟩ nwC_ok hN hK hP (hD _) (by decide) (e_g1_3 cy ad _) rfl rfl hl.1 rfl (Nat.le_of_ble_eq_true rfl) d_E_growPolynomial_2 ⟨Nat.zero_le _, Nat.zero_le _⟩) (hD _) hS hA (fun H locs hP hS => ?_)
  refine lv_aload_n hx hb d_E_growPolynomial_5 rfl (lv_at hl 0 rfl) ?_
  refine wx_get (v := .ref (ad 20)) (C := RQ_E) (T := FQ_E) (N := 7) hx hb ht IQ_E hown hK hP 3 (by decide) (e_g1_3 cy ad _) rfl 3 (by decide) (ht _ kw_171) (fun _ h9 => h9) rfl d_E_growPolynomial_6 ?_
  refine lv_iload_n hx hb d_E_growPolynomial_9 rfl (lv_at hl 1 rfl) ?_
  refine lv_iconst (v := 1) hx hb d_E_growPolynomial_10 (by decide) ?_
  refine lv_iadd hx hb d_E_growPolynomial_11 ?_
  refine lv_lconst (v := 0) hx hb d_E_growPolynomial_12 (by decide) ?_
  obtain ⟨h16, hf⟩ := op_chk hf
  refine wx_last hx hb hK hP (hD _) hS 20 (by decide) (by decide) 11 rfl h16 d_E_growPolynomial_13 (fun H locs hP hS => ?_)
  obtain ⟨w17, h18, hf⟩ := op_let hf
  rw [h18] at hP
  refine lv_iload_n hx hb d_E_growPolynomial_14 rfl (lv_at hl 1 rfl) ?_
  refine lv_iconst (v := 1) hx hb d_E_growPolynomial_15 (by decide) ?_
  refine lv_iadd hx hb d_E_growPolynomial_16 ?_
  obtain ⟨v19, h20, hf⟩ := op_let hf
  refine sw_i h20 ?_
  refine lv_istore_n (lv' := [(2, .int v19), (0, .ref (ad 3)), (1, .int p1)]) hx hb d_E_growPolynomial_17 rfl hl (by decide) rfl (fun ls hl => ?_)
  obtain ⟨w21, hc22, hf⟩ := op_b1 hf
  refine L_18 _ _ _ _ hc22 _ _ _ hP hS (lv_sub hl [1, 0] rfl) (fun H locs ls hP hS hl => ?_)
  obtain rfl := Option.some.inj hf
  exact wx_vret hx hb hr hlocks hAe hP hS d_E_growPolynomial_72
