def l_T_removeBar_4 : Nat → gS → Int32 → Option (gS)
  | 0, _, _ => none
  | n + 1, z, x2 =>
    if (z.1 2) ≤ x2 then (some z)
     else (if x2 < 0 ∨ 10 ≤ x2.toNatClampNeg then none else
     if (x2 - (1 : Int32)) < 0 ∨ 10 ≤ (x2 - (1 : Int32)).toNatClampNeg then none else
     (some (s_I z 6 (upd (z.2.2.1 6) (x2 - (1 : Int32)).toNatClampNeg (z.2.2.1 6 x2.toNatClampNeg)))).bind (fun w4 =>
     if x2 < 0 ∨ 10 ≤ x2.toNatClampNeg then none else
     if (x2 - (1 : Int32)) < 0 ∨ 10 ≤ (x2 - (1 : Int32)).toNatClampNeg then none else
     (some (s_I w4 7 (upd (w4.2.2.1 7) (x2 - (1 : Int32)).toNatClampNeg (w4.2.2.1 7 x2.toNatClampNeg)))).bind (fun w8 =>
     if x2 < 0 ∨ 10 ≤ x2.toNatClampNeg then none else
     if (x2 - (1 : Int32)) < 0 ∨ 10 ≤ (x2 - (1 : Int32)).toNatClampNeg then none else
     (some (s_I w8 8 (upd (w8.2.2.1 8) (x2 - (1 : Int32)).toNatClampNeg (w8.2.2.1 8 x2.toNatClampNeg)))).bind (fun w12 =>
     l_T_removeBar_4 n w12 (x2 + (1 : Int32))))))
def f_T_removeBar (z0 : gS) (p1 : Int32) : Option gS :=
 (some ((p1 + (1 : Int32)) : Int32)).bind (fun v14 =>
 bd1 (l_T_removeBar_4 200 z0 v14) (fun w16 =>
 (some (((w16.1 2) - (1 : Int32)) : Int32)).bind (fun v18 =>
 (some (s_i w16 2 v18)).bind (fun w20 =>
 some w20))))
set_option maxHeartbeats 4000000 in
set_option maxRecDepth 100000 in
theorem m_T_removeBar (l : Launch) (D : va_G) (cy : Nat → ClassId) (ad : Nat → Nat) (sz : Nat) (z0 : gS) (p1 : Int32) (zz : gS) (hf : f_T_removeBar z0 p1 = some zz) : Met l y_T_removeBar (Cond.code y_T_removeBar c_T_removeBar 3 none :: gt_ws) ({ frames := 0, cells := 0, slots := 0, locals := 0 }) (sPc D cl_all (gTy cy) nwC 52 ad (g1 cy ad z0) sz [.ref (ad 1), .int p1]) (sQv D cl_all 52 ad (g1 cy ad z0) sz (g1 cy ad zz)) 0 0 (va_A (wl 52 ad (g1 cy ad z0)) sz) := by
  refine Met.ofW (cc := c_T_removeBar) (maxL := 3) (ret := none) (by decide) rfl ?_
  intro p e s m args below meth c s₁ B hml hv
  obtain ⟨rfl, hsz, hP, hK, hN, hD0⟩ := hv
  have hx := B.exec
  have hb := B.bytes
  have hr := B.returns
  have hts := atoms_spec (ws := (Cond.code y_T_removeBar c_T_removeBar 3 none :: gt_ws)) B.pre
  have ht : ∀ w ∈ gt_ws, w.before _ s = true := fun w h => hts w (List.mem_cons_of_mem _ h)
  have hown : s.vm.findClass RQ_T = some m.cls := findClass_of_methodNamed B.named
  have hlocks := B.notSynchronized
  subst hsz
  have hD1 := hD0.self (sz := s.heap.size)
  obtain ⟨A, hAe⟩ : ∃ A, A = va_A (wl 52 ad (g1 cy ad z0)) s.heap.size := ⟨_, rfl⟩
  rw [← hAe] at hD1
  have hD : ∀ g, va_D A (wl 52 ad g) := fun _ => wl_D hD1
  have hA : ∀ q : Nat, s.heap.size ≤ q → A q := fun q h => by rw [hAe]; exact Or.inr h
  have hS : va_S A s.heap s.heap [] := va_S.rf
  have hl := lv_entry ([.ref (ad 1), .int p1]) (n := 3) (Nat.le_of_ble_eq_true rfl)
  rw [lg_entry_eq]
  generalize (lg_sl ([.ref (ad 1), .int p1]) ++ List.replicate (3 - (lg_sl ([.ref (ad 1), .int p1])).length) Slot.unset).toArray = ls at hl ⊢
  have hl : lv_has ls 3 [(0, .ref (ad 1)), (1, .int p1)] := hl
  have L_4 : ∀ (n : Nat) (z : gS) (x2 : Int32) (z9 : gS), l_T_removeBar_4 n z x2 = some z9 → ∀ (H : Heap) (locs : List Loc) (ls : Array Slot), va_P D cl_all (wl 52 ad (g1 cy ad z)) H → va_S A s.heap H locs → lv_has ls 3 [(0, .ref (ad 1)), (2, .int x2)] →
      (∀ (H : Heap) (locs : List Loc) (ls : Array Slot), va_P D cl_all (wl 52 ad (g1 cy ad z9)) H → va_S A s.heap H locs → lv_has ls 3 [(0, .ref (ad 1))] → W p l e (headSpec (Cond.code y_T_removeBar c_T_removeBar 3 none :: gt_ws) ({ frames := 0, cells := 0, slots := 0, locals := 0 })).room s m ([.ref (ad 1), .int p1]).toArray below meth c H locs 0 0 (MQ below (sQv D cl_all 52 ad (g1 cy ad z0) s.heap.size (g1 cy ad zz)) ([.ref (ad 1), .int p1]).toArray s 0 0 (va_A (wl 52 ad (g1 cy ad z0)) s.heap.size)) (F0 m 60 ls [])) →
      W p l e (headSpec (Cond.code y_T_removeBar c_T_removeBar 3 none :: gt_ws) ({ frames := 0, cells := 0, slots := 0, locals := 0 })).room s m ([.ref (ad 1), .int p1]).toArray below meth c H locs 0 0 (MQ below (sQv D cl_all 52 ad (g1 cy ad z0) s.heap.size (g1 cy ad zz)) ([.ref (ad 1), .int p1]).toArray s 0 0 (va_A (wl 52 ad (g1 cy ad z0)) s.heap.size)) (F0 m 4 ls []) := by
    intro n
    induction n with
    | zero => intro z x2 z9 hf; rw [l_T_removeBar_4] at hf; cases hf
    | succ n ih =>
      intro z x2 z9 hf H locs ls hP hS hl k_0
      rw [l_T_removeBar_4] at hf
      refine lv_iload_n hx hb d_T_removeBar_4 rfl (lv_at hl 1 rfl) ?_
      refine lv_aload_n hx hb d_T_removeBar_5 rfl (lv_at hl 0 rfl) ?_
      refine wx_get (v := .int (z.1 2)) (C := RQ_T) (T := FQ_T) (N := 10) hx hb ht IQ_T hown hK hP 1 (by decide) (e_g1_1 cy ad _) rfl 5 (by decide) (ht _ kw_83) (fun _ h9 => h9) rfl d_T_removeBar_6 ?_
      refine lv_icmp_ge (tgt := 60) hx hb d_T_removeBar_9 (by decide) (fun c1 => ?_) (fun c1 => ?_)
      ·
        have hf := op_pos hf c1
        cases hf
        exact k_0 _ _ _ hP hS (lv_sub hl [0] rfl)
      ·
        have hf := op_neg hf c1
        refine lv_aload_n hx hb d_T_removeBar_12 rfl (lv_at hl 0 rfl) ?_
        refine wx_get (v := .ref (ad 6)) (C := RQ_T) (T := FQ_T) (N := 10) hx hb ht IQ_T hown hK hP 1 (by decide) (e_g1_1 cy ad _) rfl 2 (by decide) (ht _ kw_76) (fun _ h9 => h9) rfl d_T_removeBar_13 ?_
        refine lv_iload_n hx hb d_T_removeBar_16 rfl (lv_at hl 1 rfl) ?_
        refine lv_iconst (v := 1) hx hb d_T_removeBar_17 (by decide) ?_
        refine lv_isub hx hb d_T_removeBar_18 ?_
        refine lv_aload_n hx hb d_T_removeBar_19 rfl (lv_at hl 0 rfl) ?_
        refine wx_get (v := .ref (ad 6)) (C := RQ_T) (T := FQ_T) (N := 10) hx hb ht IQ_T hown hK hP 1 (by decide) (e_g1_1 cy ad _) rfl 2 (by decide) (ht _ kw_76) (fun _ h9 => h9) rfl d_T_removeBar_20 ?_
        refine lv_iload_n hx hb d_T_removeBar_23 rfl (lv_at hl 1 rfl) ?_
        obtain ⟨h2, hf⟩ := op_chk hf
        refine wx_iald hx hb hK hP 6 (by decide) (by decide) 10 rfl h2 d_T_removeBar_24 ?_
        obtain ⟨h3, hf⟩ := op_chk hf
        refine wx_iast hx hb hK hP (hD _) hS 6 (by decide) (by decide) 10 rfl h3 d_T_removeBar_25 (fun H locs hP hS => ?_)
        obtain ⟨w4, h5, hf⟩ := op_let hf
        rw [h5] at hP
        refine lv_aload_n hx hb d_T_removeBar_26 rfl (lv_at hl 0 rfl) ?_
        refine wx_get (v := .ref (ad 7)) (C := RQ_T) (T := FQ_T) (N := 10) hx hb ht IQ_T hown hK hP 1 (by decide) (e_g1_1 cy ad _) rfl 3 (by decide) (ht _ kw_78) (fun _ h9 => h9) rfl d_T_removeBar_27 ?_
        refine lv_iload_n hx hb d_T_removeBar_30 rfl (lv_at hl 1 rfl) ?_
        refine lv_iconst (v := 1) hx hb d_T_removeBar_31 (by decide) ?_
        refine lv_isub hx hb d_T_removeBar_32 ?_
        refine lv_aload_n hx hb d_T_removeBar_33 rfl (lv_at hl 0 rfl) ?_
        refine wx_get (v := .ref (ad 7)) (C := RQ_T) (T := FQ_T) (N := 10) hx hb ht IQ_T hown hK hP 1 (by decide) (e_g1_1 cy ad _) rfl 3 (by decide) (ht _ kw_78) (fun _ h9 => h9) rfl d_T_removeBar_34 ?_
        refine lv_iload_n hx hb d_T_removeBar_37 rfl (lv_at hl 1 rfl) ?_
        obtain ⟨h6, hf⟩ := op_chk hf
        refine wx_iald hx hb hK hP 7 (by decide) (by decide) 10 rfl h6 d_T_removeBar_38 ?_
        obtain ⟨h7, hf⟩ := op_chk hf
        refine wx_iast hx hb hK hP (hD _) hS 7 (by decide) (by decide) 10 rfl h7 d_T_removeBar_39 (fun H locs hP hS => ?_)
        obtain ⟨w8, h9, hf⟩ := op_let hf
        rw [h9] at hP
        refine lv_aload_n hx hb d_T_removeBar_40 rfl (lv_at hl 0 rfl) ?_
        refine wx_get (v := .ref (ad 8)) (C := RQ_T) (T := FQ_T) (N := 10) hx hb ht IQ_T hown hK hP 1 (by decide) (e_g1_1 cy ad _) rfl 4 (by decide) (ht _ kw_80) (fun _ h9 => h9) rfl d_T_removeBar_41 ?_
        refine lv_iload_n hx hb d_T_removeBar_44 rfl (lv_at hl 1 rfl) ?_
        refine lv_iconst (v := 1) hx hb d_T_removeBar_45 (by decide) ?_
        refine lv_isub hx hb d_T_removeBar_46 ?_
        refine lv_aload_n hx hb d_T_removeBar_47 rfl (lv_at hl 0 rfl) ?_
        refine wx_get (v := .ref (ad 8)) (C := RQ_T) (T := FQ_T) (N := 10) hx hb ht IQ_T hown hK hP 1 (by decide) (e_g1_1 cy ad _) rfl 4 (by decide) (ht _ kw_80) (fun _ h9 => h9) rfl d_T_removeBar_48 ?_
        refine lv_iload_n hx hb d_T_removeBar_51 rfl (lv_at hl 1 rfl) ?_
        obtain ⟨h10, hf⟩ := op_chk hf
        refine wx_iald hx hb hK hP 8 (by decide) (by decide) 10 rfl h10 d_T_removeBar_52 ?_
        obtain ⟨h11, hf⟩ := op_chk hf
        refine wx_iast hx hb hK hP (hD _) hS 8 (by decide) (by decide) 10 rfl h11 d_T_removeBar_53 (fun H locs hP hS => ?_)
        obtain ⟨w12, h13, hf⟩ := op_let hf
        rw [h13] at hP
        refine lv_iinc (v := x2 + (1 : Int32)) (lv' := [(2, .int (x2 + (1 : Int32))), (0, .ref (ad 1))]) hx hb d_T_removeBar_54 hl (k := 1) rfl rfl (by decide) rfl (fun ls hl => ?_)
        refine lv_goto (tgt := 4) hx hb d_T_removeBar_57 (by decide) ?_
        exact ih _ _ _ hf _ _ _ hP hS (lv_sub hl [1, 0] rfl) k_0
  unfold f_T_removeBar at hf
  refine lv_iload_n hx hb d_T_removeBar_0 rfl (lv_at hl 1 rfl) ?_
  refine lv_iconst (v := 1) hx hb d_T_removeBar_1 (by decide) ?_
  refine lv_iadd hx hb d_T_removeBar_2 ?_
  obtain ⟨v14, h15, hf⟩ := op_let hf
  refine sw_i h15 ?_
  refine lv_istore_n (lv' := [(2, .int v14), (0, .ref (ad 1)), (1, .int p1)]) hx hb d_T_removeBar_3 rfl hl (by decide) rfl (fun ls hl => ?_)
  obtain ⟨w16, hc17, hf⟩ := op_b1 hf
  refine L_4 _ _ _ _ hc17 _ _ _ hP hS (lv_sub hl [1, 0] rfl) (fun H locs ls hP hS hl => ?_)
  refine lv_aload_n hx hb d_T_removeBar_60 rfl (lv_at hl 0 rfl) ?_
  refine lv_dup hx hb d_T_removeBar_61 rfl ?_
  refine wx_get (v := .int (w16.1 2)) (C := RQ_T) (T := FQ_T) (N := 10) hx hb ht IQ_T hown hK hP 1 (by decide) (e_g1_1 cy ad _) rfl 5 (by decide) (ht _ kw_83) (fun _ h9 => h9) rfl d_T_removeBar_62 ?_
  refine lv_iconst (v := 1) hx hb d_T_removeBar_65 (by decide) ?_
  refine lv_isub hx hb d_T_removeBar_66 ?_
  obtain ⟨v18, h19, hf⟩ := op_let hf
  refine sw_i h19 ?_
  refine wx_put (v := .int v18) (ty := .int) (C := RQ_T) (T := FQ_T) (N := 10) hx hb ht IQ_T TQ_T TQ_T_ok NQ_T hown hK hP (hD _) hS 1 (by decide) (e_g1_1 cy ad _) rfl 5 (by decide) (ht _ kw_83) (fun _ h9 => h9) rfl (by decide +kernel) rfl rfl (Nat.le_of_ble_eq_true rfl) d_T_removeBar_67 (up_T_barCount cy ad _ v18) (fun H locs hP hS => ?_)
  obtain ⟨w20, h21, hf⟩ := op_let hf
  rw [h21] at hP
  obtain rfl := Option.some.inj hf
  exact wx_vret hx hb hr hlocks hAe hP hS d_T_removeBar_70

def f_S_unbar (z0 : gS) (p1 : Int32) : Option (Int32 × gS) :=
 bd2 (f_S_isBarThere z0 p1) (fun r3 w2 =>
 if r3 = 0 then (some ((-1 : Int32), w2))
 else (if (w2.1 0) = 0 then (bd1 (f_T_removeBar w2 p1) (fun w7 =>
 some ((w7.1 2), w7)))
 else (some ((-4 : Int32), w2))))
set_option maxHeartbeats 4000000 in
set_option maxRecDepth 100000 in
theorem m_S_unbar (l : Launch) (D : va_G) (cy : Nat → ClassId) (ad : Nat → Nat) (sz : Nat) (z0 : gS) (p1 : Int32) (r : Int32) (zz : gS) (hf : f_S_unbar z0 p1 = some (r, zz)) : Met l y_S_unbar (Cond.code y_S_unbar c_S_unbar 2 (some .int) :: gt_ws) ({ frames := 1, cells := 0, slots := 0, locals := 45 }) (sPc D cl_all (gTy cy) nwC 52 ad (g1 cy ad z0) sz [.ref (ad 0), .int p1]) (sQi D cl_all 52 ad (g1 cy ad z0) sz r (g1 cy ad zz)) 0 0 (va_A (wl 52 ad (g1 cy ad z0)) sz) := by
  refine Met.ofW (cc := c_S_unbar) (maxL := 2) (ret := (some .int)) (by decide) rfl ?_
  intro p e s m args below meth c s₁ B hml hv
  obtain ⟨rfl, hsz, hP, hK, hN, hD0⟩ := hv
  have hx := B.exec
  have hb := B.bytes
  have hr := B.returns
  have hts := atoms_spec (ws := (Cond.code y_S_unbar c_S_unbar 2 (some .int) :: gt_ws)) B.pre
  have ht : ∀ w ∈ gt_ws, w.before _ s = true := fun w h => hts w (List.mem_cons_of_mem _ h)
  have hown : s.vm.findClass RQ_S = some m.cls := findClass_of_methodNamed B.named
  have hlocks := B.notSynchronized
  subst hsz
  have hD1 := hD0.self (sz := s.heap.size)
  obtain ⟨A, hAe⟩ : ∃ A, A = va_A (wl 52 ad (g1 cy ad z0)) s.heap.size := ⟨_, rfl⟩
  rw [← hAe] at hD1
  have hD : ∀ g, va_D A (wl 52 ad g) := fun _ => wl_D hD1
  have hA : ∀ q : Nat, s.heap.size ≤ q → A q := fun q h => by rw [hAe]; exact Or.inr h
  have hS : va_S A s.heap s.heap [] := va_S.rf
  have hl := lv_entry ([.ref (ad 0), .int p1]) (n := 2) (Nat.le_of_ble_eq_true rfl)
  rw [lg_entry_eq]
  generalize (lg_sl ([.ref (ad 0), .int p1]) ++ List.replicate (2 - (lg_sl ([.ref (ad 0), .int p1])).length) Slot.unset).toArray = ls at hl ⊢
  have hl : lv_has ls 2 [(0, .ref (ad 0)), (1, .int p1)] := hl
  unfold f_S_unbar at hf
  refine lv_aload_n hx hb d_S_unbar_0 rfl (lv_at hl 0 rfl) ?_
  refine lv_iload_n hx hb d_S_unbar_1 rfl (lv_at hl 1 rfl) ?_
  obtain ⟨r3, w2, hc1, hf⟩ := op_b2 hf
  refine wx_fi (wx_rV (As := [.int p1]) (rest := []) ⟨hx, hb, hml, hown, ht⟩ (m_S_isBarThere l D cy ad _ z0 p1 _ _ hc1) ⟨callB_of 1 ht (gt_in (fun _ h9 => h9) kw_273) rfl rfl rfl (ht _ kw_47) (ht _ kw_270) q_S_isBarThere ⟨Nat.le_of_ble_eq_true rfl, Nat.le_of_ble_eq_true rfl⟩, ht _ kw_272, ht _ kw_0⟩ nwC_ok hN hK hP (hD _) (by decide) (e_g1_0 cy ad _) rfl rfl hl.1 rfl (Nat.le_of_ble_eq_true rfl) d_S_unbar_2 ⟨Nat.zero_le _, Nat.zero_le _⟩) (hD _) hS hA (fun H locs hP hS => ?_)
  refine lv_if_ne (tgt := 10) hx hb d_S_unbar_5 (by decide) (fun c4 => ?_) (fun c4 => ?_)
  ·
    have hf := op_neg hf c4
    refine lv_aload_n hx hb d_S_unbar_10 rfl (lv_at hl 0 rfl) ?_
    refine wx_get (v := .int (w2.1 0)) (C := RQ_S) (T := FQ_S) (N := 5) hx hb ht IQ_S hown hK hP 0 (by decide) (e_g1_0 cy ad _) rfl 4 (by decide) (ht _ kw_221) (fun _ h9 => h9) rfl d_S_unbar_11 ?_
    refine lv_if_eq (tgt := 20) hx hb d_S_unbar_14 (by decide) (fun c5 => ?_) (fun c5 => ?_)
    ·
      have hf := op_pos hf c5
      refine lv_aload_n hx hb d_S_unbar_20 rfl (lv_at hl 0 rfl) ?_
      refine wx_get (v := .ref (ad 1)) (C := RQ_S) (T := FQ_S) (N := 5) hx hb ht IQ_S hown hK hP 0 (by decide) (e_g1_0 cy ad _) rfl 0 (by decide) (ht _ kw_217) (fun _ h9 => h9) rfl d_S_unbar_21 ?_
      refine lv_iload_n hx hb d_S_unbar_24 rfl (lv_at hl 1 rfl) ?_
      obtain ⟨w7, hc6, hf⟩ := op_b1 hf
      refine wx_fv (wx_rV (As := [.int p1]) (rest := []) ⟨hx, hb, hml, hown, ht⟩ (m_T_removeBar l D cy ad _ w2 p1 _ hc6) ⟨callB_of 1 ht (gt_in (fun _ h9 => h9) kw_277) rfl rfl rfl (ht _ kw_48) (ht _ kw_274) q_T_removeBar ⟨Nat.le_of_ble_eq_true rfl, Nat.le_of_ble_eq_true rfl⟩, ht _ kw_275, ht _ kw_276⟩ nwC_ok hN hK hP (hD _) (by decide) (e_g1_1 cy ad _) rfl rfl hl.1 rfl (Nat.le_of_ble_eq_true rfl) d_S_unbar_25 ⟨Nat.zero_le _, Nat.zero_le _⟩) (hD _) hS hA (fun H locs hP hS => ?_)
      refine lv_aload_n hx hb d_S_unbar_28 rfl (lv_at hl 0 rfl) ?_
      refine wx_get (v := .ref (ad 1)) (C := RQ_S) (T := FQ_S) (N := 5) hx hb ht IQ_S hown hK hP 0 (by decide) (e_g1_0 cy ad _) rfl 0 (by decide) (ht _ kw_217) (fun _ h9 => h9) rfl d_S_unbar_29 ?_
      refine wx_get (v := .int (w7.1 2)) (C := RQ_T) (T := FQ_T) (N := 10) hx hb ht IQ_T hown hK hP 1 (by decide) (e_g1_1 cy ad _) rfl 5 (by decide) (ht _ kw_86) (fun _ h9 => h9) rfl d_S_unbar_32 ?_
      obtain ⟨hv9, rfl⟩ := op_inj hf
      exact wx_iret hx hb hr hlocks hAe hP hS hv9 d_S_unbar_35
    ·
      have hf := op_neg hf c5
      refine lv_bipush (v := -4) hx hb d_S_unbar_17 (by decide) ?_
      obtain ⟨hv9, rfl⟩ := op_inj hf
      exact wx_iret hx hb hr hlocks hAe hP hS hv9 d_S_unbar_19
  ·
    have hf := op_pos hf c4
    refine lv_iconst (v := -1) hx hb d_S_unbar_8 (by decide) ?_
    obtain ⟨hv9, rfl⟩ := op_inj hf
    exact wx_iret hx hb hr hlocks hAe hP hS hv9 d_S_unbar_9

def f_S_isDirection (z0 : gS) (p0 : Int32) : Option (Int32 × gS) :=
 if p0 < 0 then (some ((0 : Int32), z0))
 else (if (2 : Int32) ≤ p0 then (some ((0 : Int32), z0))
 else (some ((1 : Int32), z0)))
set_option maxHeartbeats 4000000 in
set_option maxRecDepth 100000 in
theorem m_S_isDirection (l : Launch) (D : va_G) (cy : Nat → ClassId) (ad : Nat → Nat) (sz : Nat) (z0 : gS) (p0 : Int32) (r : Int32) (zz : gS) (hf : f_S_isDirection z0 p0 = some (r, zz)) : Met l y_S_isDirection (Cond.code y_S_isDirection c_S_isDirection 1 (some .boolean) :: gt_ws) ({ frames := 0, cells := 0, slots := 0, locals := 0 }) (sPc D cl_all (gTy cy) nwC 52 ad (g1 cy ad z0) sz [.int p0]) (sQi D cl_all 52 ad (g1 cy ad z0) sz r (g1 cy ad zz)) 0 0 (va_A (wl 52 ad (g1 cy ad z0)) sz) := by
  refine Met.ofW (cc := c_S_isDirection) (maxL := 1) (ret := (some .boolean)) (by decide) rfl ?_
  intro p e s m args below meth c s₁ B hml hv
  obtain ⟨rfl, hsz, hP, hK, hN, hD0⟩ := hv
  have hx := B.exec
  have hb := B.bytes
  have hr := B.returns
  have hts := atoms_spec (ws := (Cond.code y_S_isDirection c_S_isDirection 1 (some .boolean) :: gt_ws)) B.pre
  have ht : ∀ w ∈ gt_ws, w.before _ s = true := fun w h => hts w (List.mem_cons_of_mem _ h)
  have hown : s.vm.findClass RQ_S = some m.cls := findClass_of_methodNamed B.named
  have hlocks := B.notSynchronized
  subst hsz
  have hD1 := hD0.self (sz := s.heap.size)
  obtain ⟨A, hAe⟩ : ∃ A, A = va_A (wl 52 ad (g1 cy ad z0)) s.heap.size := ⟨_, rfl⟩
  rw [← hAe] at hD1
  have hD : ∀ g, va_D A (wl 52 ad g) := fun _ => wl_D hD1
  have hA : ∀ q : Nat, s.heap.size ≤ q → A q := fun q h => by rw [hAe]; exact Or.inr h
  have hS : va_S A s.heap s.heap [] := va_S.rf
  have hl := lv_entry ([.int p0]) (n := 1) (Nat.le_of_ble_eq_true rfl)
  rw [lg_entry_eq]
  generalize (lg_sl ([.int p0]) ++ List.replicate (1 - (lg_sl ([.int p0])).length) Slot.unset).toArray = ls at hl ⊢
  have hl : lv_has ls 1 [(0, .int p0)] := hl
  unfold f_S_isDirection at hf
  refine lv_iload_n hx hb d_S_isDirection_0 rfl (lv_at hl 0 rfl) ?_
  refine lv_if_lt (tgt := 13) hx hb d_S_isDirection_1 (by decide) (fun c1 => ?_) (fun c1 => ?_)
  ·
    have hf := op_pos hf c1
    refine lv_iconst (v := 0) hx hb d_S_isDirection_13 (by decide) ?_
    obtain ⟨hv9, rfl⟩ := op_inj hf
    exact wx_zret hx hb hr hlocks (by first | decide | rfl) hAe hP hS hv9 d_S_isDirection_14
  ·
    have hf := op_neg hf c1
    refine lv_iload_n hx hb d_S_isDirection_4 rfl (lv_at hl 0 rfl) ?_
    refine lv_iconst (v := 2) hx hb d_S_isDirection_5 (by decide) ?_
    refine lv_icmp_ge (tgt := 13) hx hb d_S_isDirection_6 (by decide) (fun c2 => ?_) (fun c2 => ?_)
    ·
      have hf := op_pos hf c2
      refine lv_iconst (v := 0) hx hb d_S_isDirection_13 (by decide) ?_
      obtain ⟨hv9, rfl⟩ := op_inj hf
      exact wx_zret hx hb hr hlocks (by first | decide | rfl) hAe hP hS hv9 d_S_isDirection_14
    ·
      have hf := op_neg hf c2
      refine lv_iconst (v := 1) hx hb d_S_isDirection_9 (by decide) ?_
      refine lv_goto (tgt := 14) hx hb d_S_isDirection_10 (by decide) ?_
      obtain ⟨hv9, rfl⟩ := op_inj hf
      exact wx_zret hx hb hr hlocks (by first | decide | rfl) hAe hP hS hv9 d_S_isDirection_14

def f_S_hold (z0 : gS) (p1 : Int32) (p2 : Int32) (p3 : Int32) (p4 : Int32) : Option (Int32 × gS) :=
 bd2 (f_S_isNode z0 p1) (fun r3 w2 =>
 if r3 = 0 then (some ((-1 : Int32), w2))
 else (bd2 (f_S_isDirection w2 p2) (fun r7 w6 =>
 if r7 = 0 then (some ((-1 : Int32), w6))
 else (if p4 < (-9 : Int32) then (some ((-1 : Int32), w6))
 else (if p4 ≤ (9 : Int32) then (if (w6.1 0) = 0 then (bd2 (f_S_slotOf w6 p1 p2) (fun r14 w13 =>
 if r14 < 0 ∨ 10 ≤ r14.toNatClampNeg then none else
 (some (s_I w13 9 (upd (w13.2.2.1 9) r14.toNatClampNeg (vp_nar .boolean p3)))).bind (fun w16 =>
 if r14 < 0 ∨ 10 ≤ r14.toNatClampNeg then none else
 (some (s_I w16 10 (upd (w16.2.2.1 10) r14.toNatClampNeg p4))).bind (fun w19 =>
 some ((0 : Int32), w19)))))
 else (some ((-4 : Int32), w6)))
 else (some ((-1 : Int32), w6)))))))
set_option maxHeartbeats 4000000 in
set_option maxRecDepth 100000 in
theorem m_S_hold (l : Launch) (D : va_G) (cy : Nat → ClassId) (ad : Nat → Nat) (sz : Nat) (z0 : gS) (p1 : Int32) (p2 : Int32) (p3 : Int32) (p4 : Int32) (r : Int32) (zz : gS) (hf : f_S_hold z0 p1 p2 p3 p4 = some (r, zz)) : Met l y_S_hold (Cond.code y_S_hold c_S_hold 6 (some .int) :: gt_ws) ({ frames := 1, cells := 0, slots := 0, locals := 45 }) (sPc D cl_all (gTy cy) nwC 52 ad (g1 cy ad z0) sz [.ref (ad 0), .int p1, .int p2, .int p3, .int p4]) (sQi D cl_all 52 ad (g1 cy ad z0) sz r (g1 cy ad zz)) 0 0 (va_A (wl 52 ad (g1 cy ad z0)) sz) := by
  refine Met.ofW (cc := c_S_hold) (maxL := 6) (ret := (some .int)) (by decide) rfl ?_
  intro p e s m args below meth c s₁ B hml hv
  obtain ⟨rfl, hsz, hP, hK, hN, hD0⟩ := hv
  have hx := B.exec
  have hb := B.bytes
  have hr := B.returns
  have hts := atoms_spec (ws := (Cond.code y_S_hold c_S_hold 6 (some .int) :: gt_ws)) B.pre
  have ht : ∀ w ∈ gt_ws, w.before _ s = true := fun w h => hts w (List.mem_cons_of_mem _ h)
  have hown : s.vm.findClass RQ_S = some m.cls := findClass_of_methodNamed B.named
  have hlocks := B.notSynchronized
  subst hsz
  have hD1 := hD0.self (sz := s.heap.size)
  obtain ⟨A, hAe⟩ : ∃ A, A = va_A (wl 52 ad (g1 cy ad z0)) s.heap.size := ⟨_, rfl⟩
  rw [← hAe] at hD1
  have hD : ∀ g, va_D A (wl 52 ad g) := fun _ => wl_D hD1
  have hA : ∀ q : Nat, s.heap.size ≤ q → A q := fun q h => by rw [hAe]; exact Or.inr h
  have hS : va_S A s.heap s.heap [] := va_S.rf
  have hl := lv_entry ([.ref (ad 0), .int p1, .int p2, .int p3, .int p4]) (n := 6) (Nat.le_of_ble_eq_true rfl)
  rw [lg_entry_eq]
  generalize (lg_sl ([.ref (ad 0), .int p1, .int p2, .int p3, .int p4]) ++ List.replicate (6 - (lg_sl ([.ref (ad 0), .int p1, .int p2, .int p3, .int p4])).length) Slot.unset).toArray = ls at hl ⊢
  have hl : lv_has ls 6 [(0, .ref (ad 0)), (1, .int p1), (2, .int p2), (3, .int p3), (4, .int p4)] := hl
  unfold f_S_hold at hf
  refine lv_iload_n hx hb d_S_hold_0 rfl (lv_at hl 1 rfl) ?_
  obtain ⟨r3, w2, hc1, hf⟩ := op_b2 hf
  refine wx_fi (wx_rS (As := [.int p1]) (rest := []) ⟨hx, hb, hml, hown, ht⟩ (m_S_isNode l D cy ad _ z0 p1 _ _ hc1) ⟨callB_of 1 ht (gt_in (fun _ h9 => h9) kw_239) rfl rfl rfl (ht _ kw_47) (ht _ kw_237) q_S_isNode ⟨Nat.le_of_ble_eq_true rfl, Nat.le_of_ble_eq_true rfl⟩, ht _ kw_238⟩ nwC_ok hN hK hP (hD _) rfl hl.1 rfl (Nat.le_of_ble_eq_true rfl) d_S_hold_1 ⟨Nat.zero_le _, Nat.zero_le _⟩) (hD _) hS hA (fun H locs hP hS => ?_)
  refine lv_if_eq (tgt := 28) hx hb d_S_hold_4 (by decide) (fun c4 => ?_) (fun c4 => ?_)
  ·
    have hf := op_pos hf c4
    refine lv_iconst (v := -1) hx hb d_S_hold_28 (by decide) ?_
    obtain ⟨hv9, rfl⟩ := op_inj hf
    exact wx_iret hx hb hr hlocks hAe hP hS hv9 d_S_hold_29
  ·
    have hf := op_neg hf c4
    refine lv_iload_n hx hb d_S_hold_7 rfl (lv_at hl 2 rfl) ?_
    obtain ⟨r7, w6, hc5, hf⟩ := op_b2 hf
    refine wx_fi (wx_rS (As := [.int p2]) (rest := []) ⟨hx, hb, hml, hown, ht⟩ (m_S_isDirection l D cy ad _ w2 p2 _ _ hc5) ⟨callB_of 1 ht (gt_in (fun _ h9 => h9) kw_284) rfl rfl rfl (ht _ kw_47) (ht _ kw_282) q_S_isDirection ⟨Nat.le_of_ble_eq_true rfl, Nat.le_of_ble_eq_true rfl⟩, ht _ kw_283⟩ nwC_ok hN hK hP (hD _) rfl hl.1 rfl (Nat.le_of_ble_eq_true rfl) d_S_hold_8 ⟨Nat.zero_le _, Nat.zero_le _⟩) (hD _) hS hA (fun H locs hP hS => ?_)
    refine lv_if_eq (tgt := 28) hx hb d_S_hold_11 (by decide) (fun c8 => ?_) (fun c8 => ?_)
    ·
      have hf := op_pos hf c8
      refine lv_iconst (v := -1) hx hb d_S_hold_28 (by decide) ?_
      obtain ⟨hv9, rfl⟩ := op_inj hf
      exact wx_iret hx hb hr hlocks hAe hP hS hv9 d_S_hold_29
    ·
      have hf := op_neg hf c8
      refine lv_iload hx hb d_S_hold_14 (lv_at hl 4 rfl) ?_
      refine lv_bipush (v := -9) hx hb d_S_hold_16 (by decide) ?_
      refine lv_icmp_lt (tgt := 28) hx hb d_S_hold_18 (by decide) (fun c9 => ?_) (fun c9 => ?_)
      ·
        have hf := op_pos hf c9
        refine lv_iconst (v := -1) hx hb d_S_hold_28 (by decide) ?_
        obtain ⟨hv9, rfl⟩ := op_inj hf
        exact wx_iret hx hb hr hlocks hAe hP hS hv9 d_S_hold_29
      ·
        have hf := op_neg hf c9
        refine lv_iload hx hb d_S_hold_21 (lv_at hl 4 rfl) ?_
        refine lv_bipush (v := 9) hx hb d_S_hold_23 (by decide) ?_
        refine lv_icmp_le (tgt := 30) hx hb d_S_hold_25 (by decide) (fun c10 => ?_) (fun c10 => ?_)
        ·
          have hf := op_pos hf c10
          refine lv_aload_n hx hb d_S_hold_30 rfl (lv_at hl 0 rfl) ?_
          refine wx_get (v := .int (w6.1 0)) (C := RQ_S) (T := FQ_S) (N := 5) hx hb ht IQ_S hown hK hP 0 (by decide) (e_g1_0 cy ad _) rfl 4 (by decide) (ht _ kw_221) (fun _ h9 => h9) rfl d_S_hold_31 ?_
          refine lv_if_eq (tgt := 40) hx hb d_S_hold_34 (by decide) (fun c11 => ?_) (fun c11 => ?_)
          ·
            have hf := op_pos hf c11
            refine lv_iload_n hx hb d_S_hold_40 rfl (lv_at hl 1 rfl) ?_
            refine lv_iload_n hx hb d_S_hold_41 rfl (lv_at hl 2 rfl) ?_
            obtain ⟨r14, w13, hc12, hf⟩ := op_b2 hf
            refine wx_fi (wx_rS (As := [.int p1, .int p2]) (rest := []) ⟨hx, hb, hml, hown, ht⟩ (m_S_slotOf l D cy ad _ w6 p1 p2 _ _ hc12) ⟨callB_of 2 ht (gt_in (fun _ h9 => h9) kw_253) rfl rfl rfl (ht _ kw_47) (ht _ kw_285) q_S_slotOf ⟨Nat.le_of_ble_eq_true rfl, Nat.le_of_ble_eq_true rfl⟩, ht _ kw_252⟩ nwC_ok hN hK hP (hD _) rfl hl.1 rfl (Nat.le_of_ble_eq_true rfl) d_S_hold_42 ⟨Nat.zero_le _, Nat.zero_le _⟩) (hD _) hS hA (fun H locs hP hS => ?_)
            refine lv_istore (lv' := [(5, .int r14), (0, .ref (ad 0)), (1, .int p1), (2, .int p2), (3, .int p3), (4, .int p4)]) hx hb d_S_hold_45 hl (by decide) rfl (fun ls hl => ?_)
            refine lv_aload_n hx hb d_S_hold_47 rfl (lv_at hl 1 rfl) ?_
            refine wx_get (v := .ref (ad 1)) (C := RQ_S) (T := FQ_S) (N := 5) hx hb ht IQ_S hown hK hP 0 (by decide) (e_g1_0 cy ad _) rfl 0 (by decide) (ht _ kw_217) (fun _ h9 => h9) rfl d_S_hold_48 ?_
            refine wx_get (v := .ref (ad 9)) (C := RQ_T) (T := FQ_T) (N := 10) hx hb ht IQ_T hown hK hP 1 (by decide) (e_g1_1 cy ad _) rfl 6 (by decide) (ht _ kw_88) (fun _ h9 => h9) rfl d_S_hold_51 ?_
            refine lv_iload hx hb d_S_hold_54 (lv_at hl 0 rfl) ?_
            refine lv_iload_n hx hb d_S_hold_56 rfl (lv_at hl 4 rfl) ?_
            obtain ⟨h15, hf⟩ := op_chk hf
            refine wx_zast hx hb hK hP (hD _) hS 9 (by decide) (by decide) 10 rfl h15 d_S_hold_57 (fun H locs hP hS => ?_)
            obtain ⟨w16, h17, hf⟩ := op_let hf
            rw [h17] at hP
            refine lv_aload_n hx hb d_S_hold_58 rfl (lv_at hl 1 rfl) ?_
            refine wx_get (v := .ref (ad 1)) (C := RQ_S) (T := FQ_S) (N := 5) hx hb ht IQ_S hown hK hP 0 (by decide) (e_g1_0 cy ad _) rfl 0 (by decide) (ht _ kw_217) (fun _ h9 => h9) rfl d_S_hold_59 ?_
            refine wx_get (v := .ref (ad 10)) (C := RQ_T) (T := FQ_T) (N := 10) hx hb ht IQ_T hown hK hP 1 (by decide) (e_g1_1 cy ad _) rfl 7 (by decide) (ht _ kw_92) (fun _ h9 => h9) rfl d_S_hold_62 ?_
            refine lv_iload hx hb d_S_hold_65 (lv_at hl 0 rfl) ?_
            refine lv_iload hx hb d_S_hold_67 (lv_at hl 5 rfl) ?_
            obtain ⟨h18, hf⟩ := op_chk hf
            refine wx_iast hx hb hK hP (hD _) hS 10 (by decide) (by decide) 10 rfl h18 d_S_hold_69 (fun H locs hP hS => ?_)
            obtain ⟨w19, h20, hf⟩ := op_let hf
            rw [h20] at hP
            refine lv_iconst (v := 0) hx hb d_S_hold_70 (by decide) ?_
            obtain ⟨hv9, rfl⟩ := op_inj hf
            exact wx_iret hx hb hr hlocks hAe hP hS hv9 d_S_hold_71
          ·
            have hf := op_neg hf c11
            refine lv_bipush (v := -4) hx hb d_S_hold_37 (by decide) ?_
            obtain ⟨hv9, rfl⟩ := op_inj hf
            exact wx_iret hx hb hr hlocks hAe hP hS hv9 d_S_hold_39
        ·
          have hf := op_neg hf c10
          refine lv_iconst (v := -1) hx hb d_S_hold_28 (by decide) ?_
          obtain ⟨hv9, rfl⟩ := op_inj hf
          exact wx_iret hx hb hr hlocks hAe hP hS hv9 d_S_hold_29
