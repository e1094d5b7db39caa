def l_M_unbar_36 : Nat → gS → Int32 → Option (gS)
  | 0, _, _ => none
  | n + 1, z, x2 =>
    if (z.1 0) ≤ x2 then (some z)
     else (if (x2 + (1 : Int32)) < 0 ∨ 10 ≤ (x2 + (1 : Int32)).toNatClampNeg then none else
     if x2 < 0 ∨ 10 ≤ x2.toNatClampNeg then none else
     (some (s_I z 4 (upd (z.2.2.1 4) x2.toNatClampNeg (z.2.2.1 4 (x2 + (1 : Int32)).toNatClampNeg)))).bind (fun w4 =>
     if (x2 + (1 : Int32)) < 0 ∨ 10 ≤ (x2 + (1 : Int32)).toNatClampNeg then none else
     if x2 < 0 ∨ 10 ≤ x2.toNatClampNeg then none else
     (some (s_I w4 5 (upd (w4.2.2.1 5) x2.toNatClampNeg (w4.2.2.1 5 (x2 + (1 : Int32)).toNatClampNeg)))).bind (fun w8 =>
     if (x2 + (1 : Int32)) < 0 ∨ 10 ≤ (x2 + (1 : Int32)).toNatClampNeg then none else
     if x2 < 0 ∨ 10 ≤ x2.toNatClampNeg then none else
     (some (s_I w8 6 (upd (w8.2.2.1 6) x2.toNatClampNeg (w8.2.2.1 6 (x2 + (1 : Int32)).toNatClampNeg)))).bind (fun w12 =>
     l_M_unbar_36 n w12 (x2 + (1 : Int32))))))
def f_M_unbar (z0 : gS) (p1 : Int32) : Option (Int32 × gS) :=
 if p1 < 0 then (some ((-1 : Int32), z0))
 else (if p1 < (z0.1 0) then (if (z0.1 1) = 0 then ((some (((z0.1 0) - (1 : Int32)) : Int32)).bind (fun v17 =>
 (some (s_i z0 0 v17)).bind (fun w19 =>
 bd1 (l_M_unbar_36 200 w19 p1) (fun w21 =>
 some ((w21.1 0), w21)))))
 else (some ((-4 : Int32), z0)))
 else (some ((-1 : Int32), z0)))
set_option maxHeartbeats 4000000 in
set_option maxRecDepth 100000 in
theorem m_M_unbar (l : Launch) (D : va_G) (cy : Nat → ClassId) (ad : Nat → Nat) (sz : Nat) (z0 : gS) (p1 : Int32) (r : Int32) (zz : gS) (hf : f_M_unbar z0 p1 = some (r, zz)) : Met l y_M_unbar (Cond.code y_M_unbar c_M_unbar 3 (some .int) :: gt_ws) ({ frames := 0, cells := 0, slots := 0, locals := 0 }) (sPc D cl_all (gTy cy) nwM 16 ad (g2 cy ad z0) sz [.ref (ad 0), .int p1]) (sQi D cl_all 16 ad (g2 cy ad z0) sz r (g2 cy ad zz)) 0 0 (va_A (wl 16 ad (g2 cy ad z0)) sz) := by
  refine Met.ofW (cc := c_M_unbar) (maxL := 3) (ret := (some .int)) (by decide) rfl ?_
  intro p e s m args below meth c s₁ B hml hv
  obtain ⟨rfl, hsz, hP, hK, hN, hD0⟩ := hv
  have hx := B.exec
  have hb := B.bytes
  have hr := B.returns
  have hts := atoms_spec (ws := (Cond.code y_M_unbar c_M_unbar 3 (some .int) :: gt_ws)) B.pre
  have ht : ∀ w ∈ gt_ws, w.before _ s = true := fun w h => hts w (List.mem_cons_of_mem _ h)
  have hown : s.vm.findClass RQ_M = some m.cls := findClass_of_methodNamed B.named
  have hlocks := B.notSynchronized
  subst hsz
  have hD1 := hD0.self (sz := s.heap.size)
  obtain ⟨A, hAe⟩ : ∃ A, A = va_A (wl 16 ad (g2 cy ad z0)) s.heap.size := ⟨_, rfl⟩
  rw [← hAe] at hD1
  have hD : ∀ g, va_D A (wl 16 ad g) := fun _ => wl_D hD1
  have hA : ∀ q : Nat, s.heap.size ≤ q → A q := fun q h => by rw [hAe]; exact Or.inr h
  have hS : va_S A s.heap s.heap [] := va_S.rf
  have hl := lv_entry ([.ref (ad 0), .int p1]) (n := 3) (Nat.le_of_ble_eq_true rfl)
  rw [lg_entry_eq]
  generalize (lg_sl ([.ref (ad 0), .int p1]) ++ List.replicate (3 - (lg_sl ([.ref (ad 0), .int p1])).length) Slot.unset).toArray = ls at hl ⊢
  have hl : lv_has ls 3 [(0, .ref (ad 0)), (1, .int p1)] := hl
  have L_36 : ∀ (n : Nat) (z : gS) (x2 : Int32) (z9 : gS), l_M_unbar_36 n z x2 = some z9 → ∀ (H : Heap) (locs : List Loc) (ls : Array Slot), va_P D cl_all (wl 16 ad (g2 cy ad z)) H → va_S A s.heap H locs → lv_has ls 3 [(0, .ref (ad 0)), (2, .int x2)] →
      (∀ (H : Heap) (locs : List Loc) (ls : Array Slot), va_P D cl_all (wl 16 ad (g2 cy ad z9)) H → va_S A s.heap H locs → lv_has ls 3 [(0, .ref (ad 0))] → W p l e (headSpec (Cond.code y_M_unbar c_M_unbar 3 (some .int) :: gt_ws) ({ frames := 0, cells := 0, slots := 0, locals := 0 })).room s m ([.ref (ad 0), .int p1]).toArray below meth c H locs 0 0 (MQ below (sQi D cl_all 16 ad (g2 cy ad z0) s.heap.size r (g2 cy ad zz)) ([.ref (ad 0), .int p1]).toArray s 0 0 (va_A (wl 16 ad (g2 cy ad z0)) s.heap.size)) (F0 m 92 ls [])) →
      W p l e (headSpec (Cond.code y_M_unbar c_M_unbar 3 (some .int) :: gt_ws) ({ frames := 0, cells := 0, slots := 0, locals := 0 })).room s m ([.ref (ad 0), .int p1]).toArray below meth c H locs 0 0 (MQ below (sQi D cl_all 16 ad (g2 cy ad z0) s.heap.size r (g2 cy ad zz)) ([.ref (ad 0), .int p1]).toArray s 0 0 (va_A (wl 16 ad (g2 cy ad z0)) s.heap.size)) (F0 m 36 ls []) := by
    intro n
    induction n with
    | zero => intro z x2 z9 hf; rw [l_M_unbar_36] at hf; cases hf
    | succ n ih =>
      intro z x2 z9 hf H locs ls hP hS hl k_0
      rw [l_M_unbar_36] at hf
      refine lv_iload_n hx hb d_M_unbar_36 rfl (lv_at hl 1 rfl) ?_
      refine lv_aload_n hx hb d_M_unbar_37 rfl (lv_at hl 0 rfl) ?_
      refine wx_get (v := .int (z.1 0)) (C := RQ_M) (T := FQ_M) (N := 21) hx hb ht IQ_M hown hK hP 0 (by decide) (e_g2_0 cy ad _) rfl 6 (by decide) (ht _ kw_534) (fun _ h9 => h9) rfl d_M_unbar_38 ?_
      refine lv_icmp_ge (tgt := 92) hx hb d_M_unbar_41 (by decide) (fun c1 => ?_) (fun c1 => ?_)
      ·
        have hf := op_pos hf c1
        cases hf
        exact k_0 _ _ _ hP hS (lv_sub hl [0] rfl)
      ·
        have hf := op_neg hf c1
        refine lv_aload_n hx hb d_M_unbar_44 rfl (lv_at hl 0 rfl) ?_
        refine wx_get (v := .ref (ad 4)) (C := RQ_M) (T := FQ_M) (N := 21) hx hb ht IQ_M hown hK hP 0 (by decide) (e_g2_0 cy ad _) rfl 3 (by decide) (ht _ kw_531) (fun _ h9 => h9) rfl d_M_unbar_45 ?_
        refine lv_iload_n hx hb d_M_unbar_48 rfl (lv_at hl 1 rfl) ?_
        refine lv_aload_n hx hb d_M_unbar_49 rfl (lv_at hl 0 rfl) ?_
        refine wx_get (v := .ref (ad 4)) (C := RQ_M) (T := FQ_M) (N := 21) hx hb ht IQ_M hown hK hP 0 (by decide) (e_g2_0 cy ad _) rfl 3 (by decide) (ht _ kw_531) (fun _ h9 => h9) rfl d_M_unbar_50 ?_
        refine lv_iload_n hx hb d_M_unbar_53 rfl (lv_at hl 1 rfl) ?_
        refine lv_iconst (v := 1) hx hb d_M_unbar_54 (by decide) ?_
        refine lv_iadd hx hb d_M_unbar_55 ?_
        obtain ⟨h2, hf⟩ := op_chk hf
        refine wx_iald hx hb hK hP 4 (by decide) (by decide) 10 rfl h2 d_M_unbar_56 ?_
        obtain ⟨h3, hf⟩ := op_chk hf
        refine wx_iast hx hb hK hP (hD _) hS 4 (by decide) (by decide) 10 rfl h3 d_M_unbar_57 (fun H locs hP hS => ?_)
        obtain ⟨w4, h5, hf⟩ := op_let hf
        rw [h5] at hP
        refine lv_aload_n hx hb d_M_unbar_58 rfl (lv_at hl 0 rfl) ?_
        refine wx_get (v := .ref (ad 5)) (C := RQ_M) (T := FQ_M) (N := 21) hx hb ht IQ_M hown hK hP 0 (by decide) (e_g2_0 cy ad _) rfl 4 (by decide) (ht _ kw_532) (fun _ h9 => h9) rfl d_M_unbar_59 ?_
        refine lv_iload_n hx hb d_M_unbar_62 rfl (lv_at hl 1 rfl) ?_
        refine lv_aload_n hx hb d_M_unbar_63 rfl (lv_at hl 0 rfl) ?_
        refine wx_get (v := .ref (ad 5)) (C := RQ_M) (T := FQ_M) (N := 21) hx hb ht IQ_M hown hK hP 0 (by decide) (e_g2_0 cy ad _) rfl 4 (by decide) (ht _ kw_532) (fun _ h9 => h9) rfl d_M_unbar_64 ?_
        refine lv_iload_n hx hb d_M_unbar_67 rfl (lv_at hl 1 rfl) ?_
        refine lv_iconst (v := 1) hx hb d_M_unbar_68 (by decide) ?_
        refine lv_iadd hx hb d_M_unbar_69 ?_
        obtain ⟨h6, hf⟩ := op_chk hf
        refine wx_iald hx hb hK hP 5 (by decide) (by decide) 10 rfl h6 d_M_unbar_70 ?_
        obtain ⟨h7, hf⟩ := op_chk hf
        refine wx_iast hx hb hK hP (hD _) hS 5 (by decide) (by decide) 10 rfl h7 d_M_unbar_71 (fun H locs hP hS => ?_)
        obtain ⟨w8, h9, hf⟩ := op_let hf
        rw [h9] at hP
        refine lv_aload_n hx hb d_M_unbar_72 rfl (lv_at hl 0 rfl) ?_
        refine wx_get (v := .ref (ad 6)) (C := RQ_M) (T := FQ_M) (N := 21) hx hb ht IQ_M hown hK hP 0 (by decide) (e_g2_0 cy ad _) rfl 5 (by decide) (ht _ kw_533) (fun _ h9 => h9) rfl d_M_unbar_73 ?_
        refine lv_iload_n hx hb d_M_unbar_76 rfl (lv_at hl 1 rfl) ?_
        refine lv_aload_n hx hb d_M_unbar_77 rfl (lv_at hl 0 rfl) ?_
        refine wx_get (v := .ref (ad 6)) (C := RQ_M) (T := FQ_M) (N := 21) hx hb ht IQ_M hown hK hP 0 (by decide) (e_g2_0 cy ad _) rfl 5 (by decide) (ht _ kw_533) (fun _ h9 => h9) rfl d_M_unbar_78 ?_
        refine lv_iload_n hx hb d_M_unbar_81 rfl (lv_at hl 1 rfl) ?_
        refine lv_iconst (v := 1) hx hb d_M_unbar_82 (by decide) ?_
        refine lv_iadd hx hb d_M_unbar_83 ?_
        obtain ⟨h10, hf⟩ := op_chk hf
        refine wx_iald hx hb hK hP 6 (by decide) (by decide) 10 rfl h10 d_M_unbar_84 ?_
        obtain ⟨h11, hf⟩ := op_chk hf
        refine wx_iast hx hb hK hP (hD _) hS 6 (by decide) (by decide) 10 rfl h11 d_M_unbar_85 (fun H locs hP hS => ?_)
        obtain ⟨w12, h13, hf⟩ := op_let hf
        rw [h13] at hP
        refine lv_iinc (v := x2 + (1 : Int32)) (lv' := [(2, .int (x2 + (1 : Int32))), (0, .ref (ad 0))]) hx hb d_M_unbar_86 hl (k := 1) rfl rfl (by decide) rfl (fun ls hl => ?_)
        refine lv_goto (tgt := 36) hx hb d_M_unbar_89 (by decide) ?_
        exact ih _ _ _ hf _ _ _ hP hS (lv_sub hl [1, 0] rfl) k_0
  unfold f_M_unbar at hf
  refine lv_iload_n hx hb d_M_unbar_0 rfl (lv_at hl 1 rfl) ?_
  refine lv_if_lt (tgt := 12) hx hb d_M_unbar_1 (by decide) (fun c14 => ?_) (fun c14 => ?_)
  ·
    have hf := op_pos hf c14
    refine lv_iconst (v := -1) hx hb d_M_unbar_12 (by decide) ?_
    obtain ⟨hv9, rfl⟩ := op_inj hf
    exact wx_iret hx hb hr hlocks hAe hP hS hv9 d_M_unbar_13
  ·
    have hf := op_neg hf c14
    refine lv_iload_n hx hb d_M_unbar_4 rfl (lv_at hl 1 rfl) ?_
    refine lv_aload_n hx hb d_M_unbar_5 rfl (lv_at hl 0 rfl) ?_
    refine wx_get (v := .int (z0.1 0)) (C := RQ_M) (T := FQ_M) (N := 21) hx hb ht IQ_M hown hK hP 0 (by decide) (e_g2_0 cy ad _) rfl 6 (by decide) (ht _ kw_534) (fun _ h9 => h9) rfl d_M_unbar_6 ?_
    refine lv_icmp_lt (tgt := 14) hx hb d_M_unbar_9 (by decide) (fun c15 => ?_) (fun c15 => ?_)
    ·
      have hf := op_pos hf c15
      refine lv_aload_n hx hb d_M_unbar_14 rfl (lv_at hl 0 rfl) ?_
      refine wx_get (v := .int (z0.1 1)) (C := RQ_M) (T := FQ_M) (N := 21) hx hb ht IQ_M hown hK hP 0 (by decide) (e_g2_0 cy ad _) rfl 11 (by decide) (ht _ kw_539) (fun _ h9 => h9) rfl d_M_unbar_15 ?_
      refine lv_if_eq (tgt := 24) hx hb d_M_unbar_18 (by decide) (fun c16 => ?_) (fun c16 => ?_)
      ·
        have hf := op_pos hf c16
        refine lv_aload_n hx hb d_M_unbar_24 rfl (lv_at hl 0 rfl) ?_
        refine lv_dup hx hb d_M_unbar_25 rfl ?_
        refine wx_get (v := .int (z0.1 0)) (C := RQ_M) (T := FQ_M) (N := 21) hx hb ht IQ_M hown hK hP 0 (by decide) (e_g2_0 cy ad _) rfl 6 (by decide) (ht _ kw_534) (fun _ h9 => h9) rfl d_M_unbar_26 ?_
        refine lv_iconst (v := 1) hx hb d_M_unbar_29 (by decide) ?_
        refine lv_isub hx hb d_M_unbar_30 ?_
        obtain ⟨v17, h18, hf⟩ := op_let hf
        refine sw_i h18 ?_
        refine wx_put (v := .int v17) (ty := .int) (C := RQ_M) (T := FQ_M) (N := 21) hx hb ht IQ_M TQ_M TQ_M_ok NQ_M hown hK hP (hD _) hS 0 (by decide) (e_g2_0 cy ad _) rfl 6 (by decide) (ht _ kw_534) (fun _ h9 => h9) rfl (by decide +kernel) rfl rfl (Nat.le_of_ble_eq_true rfl) d_M_unbar_31 (up_M_bars cy ad _ v17) (fun H locs hP hS => ?_)
        obtain ⟨w19, h20, hf⟩ := op_let hf
        rw [h20] at hP
        refine lv_iload_n hx hb d_M_unbar_34 rfl (lv_at hl 1 rfl) ?_
        refine lv_istore_n (lv' := [(2, .int p1), (0, .ref (ad 0)), (1, .int p1)]) hx hb d_M_unbar_35 rfl hl (by decide) rfl (fun ls hl => ?_)
        obtain ⟨w21, hc22, hf⟩ := op_b1 hf
        refine L_36 _ _ _ _ hc22 _ _ _ hP hS (lv_sub hl [1, 0] rfl) (fun H locs ls hP hS hl => ?_)
        refine lv_aload_n hx hb d_M_unbar_92 rfl (lv_at hl 0 rfl) ?_
        refine wx_get (v := .int (w21.1 0)) (C := RQ_M) (T := FQ_M) (N := 21) hx hb ht IQ_M hown hK hP 0 (by decide) (e_g2_0 cy ad _) rfl 6 (by decide) (ht _ kw_534) (fun _ h9 => h9) rfl d_M_unbar_93 ?_
        obtain ⟨hv9, rfl⟩ := op_inj hf
        exact wx_iret hx hb hr hlocks hAe hP hS hv9 d_M_unbar_96
      ·
        have hf := op_neg hf c16
        refine lv_bipush (v := -4) hx hb d_M_unbar_21 (by decide) ?_
        obtain ⟨hv9, rfl⟩ := op_inj hf
        exact wx_iret hx hb hr hlocks hAe hP hS hv9 d_M_unbar_23
    ·
      have hf := op_neg hf c15
      refine lv_iconst (v := -1) hx hb d_M_unbar_12 (by decide) ?_
      obtain ⟨hv9, rfl⟩ := op_inj hf
      exact wx_iret hx hb hr hlocks hAe hP hS hv9 d_M_unbar_13

def f_M_hold (z0 : gS) (p1 : Int32) (p2 : Int32) (p3 : Int32) (p4 : Int32) : Option (Int32 × gS) :=
 bd2 (f_M_off z0 p1 (4 : Int32)) (fun r3 w2 =>
 if r3 = 0 then (bd2 (f_M_off w2 p2 (1 : Int32)) (fun r7 w6 =>
 if r7 = 0 then (if p4 < (-9 : Int32) then (some ((-1 : Int32), w6))
 else (if p4 ≤ (9 : Int32) then (if (w6.1 1) = 0 then (if ((p1 * (2 : Int32)) + p2) < 0 ∨ 10 ≤ ((p1 * (2 : Int32)) + p2).toNatClampNeg then none else
 (some (s_I w6 7 (upd (w6.2.2.1 7) ((p1 * (2 : Int32)) + p2).toNatClampNeg (vp_nar .boolean p3)))).bind (fun w13 =>
 if ((p1 * (2 : Int32)) + p2) < 0 ∨ 10 ≤ ((p1 * (2 : Int32)) + p2).toNatClampNeg then none else
 (some (s_I w13 8 (upd (w13.2.2.1 8) ((p1 * (2 : Int32)) + p2).toNatClampNeg p4))).bind (fun w16 =>
 some ((0 : Int32), w16))))
 else (some ((-4 : Int32), w6)))
 else (some ((-1 : Int32), w6))))
 else (some ((-1 : Int32), w6))))
 else (some ((-1 : Int32), w2)))
set_option maxHeartbeats 4000000 in
set_option maxRecDepth 100000 in
theorem m_M_hold (l : Launch) (D : va_G) (cy : Nat → ClassId) (ad : Nat → Nat) (sz : Nat) (z0 : gS) (p1 : Int32) (p2 : Int32) (p3 : Int32) (p4 : Int32) (r : Int32) (zz : gS) (hf : f_M_hold z0 p1 p2 p3 p4 = some (r, zz)) : Met l y_M_hold (Cond.code y_M_hold c_M_hold 5 (some .int) :: gt_ws) ({ frames := 1, cells := 0, slots := 0, locals := 45 }) (sPc D cl_all (gTy cy) nwM 16 ad (g2 cy ad z0) sz [.ref (ad 0), .int p1, .int p2, .int p3, .int p4]) (sQi D cl_all 16 ad (g2 cy ad z0) sz r (g2 cy ad zz)) 0 0 (va_A (wl 16 ad (g2 cy ad z0)) sz) := by
  refine Met.ofW (cc := c_M_hold) (maxL := 5) (ret := (some .int)) (by decide) rfl ?_
  intro p e s m args below meth c s₁ B hml hv
  obtain ⟨rfl, hsz, hP, hK, hN, hD0⟩ := hv
  have hx := B.exec
  have hb := B.bytes
  have hr := B.returns
  have hts := atoms_spec (ws := (Cond.code y_M_hold c_M_hold 5 (some .int) :: gt_ws)) B.pre
  have ht : ∀ w ∈ gt_ws, w.before _ s = true := fun w h => hts w (List.mem_cons_of_mem _ h)
  have hown : s.vm.findClass RQ_M = some m.cls := findClass_of_methodNamed B.named
  have hlocks := B.notSynchronized
  subst hsz
  have hD1 := hD0.self (sz := s.heap.size)
  obtain ⟨A, hAe⟩ : ∃ A, A = va_A (wl 16 ad (g2 cy ad z0)) s.heap.size := ⟨_, rfl⟩
  rw [← hAe] at hD1
  have hD : ∀ g, va_D A (wl 16 ad g) := fun _ => wl_D hD1
  have hA : ∀ q : Nat, s.heap.size ≤ q → A q := fun q h => by rw [hAe]; exact Or.inr h
  have hS : va_S A s.heap s.heap [] := va_S.rf
  have hl := lv_entry ([.ref (ad 0), .int p1, .int p2, .int p3, .int p4]) (n := 5) (Nat.le_of_ble_eq_true rfl)
  rw [lg_entry_eq]
  generalize (lg_sl ([.ref (ad 0), .int p1, .int p2, .int p3, .int p4]) ++ List.replicate (5 - (lg_sl ([.ref (ad 0), .int p1, .int p2, .int p3, .int p4])).length) Slot.unset).toArray = ls at hl ⊢
  have hl : lv_has ls 5 [(0, .ref (ad 0)), (1, .int p1), (2, .int p2), (3, .int p3), (4, .int p4)] := hl
  unfold f_M_hold at hf
  refine lv_aload_n hx hb d_M_hold_0 rfl (lv_at hl 0 rfl) ?_
  refine lv_iload_n hx hb d_M_hold_1 rfl (lv_at hl 1 rfl) ?_
  refine lv_iconst (v := 4) hx hb d_M_hold_2 (by decide) ?_
  obtain ⟨r3, w2, hc1, hf⟩ := op_b2 hf
  refine wx_fi (wx_rV (As := [.int p1, .int (4 : Int32)]) (rest := []) ⟨hx, hb, hml, hown, ht⟩ (m_M_off l D cy ad _ z0 p1 (4 : Int32) _ _ hc1) ⟨callB_of 2 ht (gt_in (fun _ h9 => h9) kw_599) rfl rfl rfl (ht _ kw_52) (ht _ kw_596) q_M_off ⟨Nat.le_of_ble_eq_true rfl, Nat.le_of_ble_eq_true rfl⟩, ht _ kw_598, ht _ kw_24⟩ nwM_ok hN hK hP (hD _) (by decide) (e_g2_0 cy ad _) rfl rfl hl.1 rfl (Nat.le_of_ble_eq_true rfl) d_M_hold_3 ⟨Nat.zero_le _, Nat.zero_le _⟩) (hD _) hS hA (fun H locs hP hS => ?_)
  refine lv_if_ne (tgt := 32) hx hb d_M_hold_6 (by decide) (fun c4 => ?_) (fun c4 => ?_)
  ·
    have hf := op_neg hf c4
    refine lv_iconst (v := -1) hx hb d_M_hold_32 (by decide) ?_
    obtain ⟨hv9, rfl⟩ := op_inj hf
    exact wx_iret hx hb hr hlocks hAe hP hS hv9 d_M_hold_33
  ·
    have hf := op_pos hf c4
    refine lv_aload_n hx hb d_M_hold_9 rfl (lv_at hl 0 rfl) ?_
    refine lv_iload_n hx hb d_M_hold_10 rfl (lv_at hl 2 rfl) ?_
    refine lv_iconst (v := 1) hx hb d_M_hold_11 (by decide) ?_
    obtain ⟨r7, w6, hc5, hf⟩ := op_b2 hf
    refine wx_fi (wx_rV (As := [.int p2, .int (1 : Int32)]) (rest := []) ⟨hx, hb, hml, hown, ht⟩ (m_M_off l D cy ad _ w2 p2 (1 : Int32) _ _ hc5) ⟨callB_of 2 ht (gt_in (fun _ h9 => h9) kw_599) rfl rfl rfl (ht _ kw_52) (ht _ kw_596) q_M_off ⟨Nat.le_of_ble_eq_true rfl, Nat.le_of_ble_eq_true rfl⟩, ht _ kw_598, ht _ kw_24⟩ nwM_ok hN hK hP (hD _) (by decide) (e_g2_0 cy ad _) rfl rfl hl.1 rfl (Nat.le_of_ble_eq_true rfl) d_M_hold_12 ⟨Nat.zero_le _, Nat.zero_le _⟩) (hD _) hS hA (fun H locs hP hS => ?_)
    refine lv_if_ne (tgt := 32) hx hb d_M_hold_15 (by decide) (fun c8 => ?_) (fun c8 => ?_)
    ·
      have hf := op_neg hf c8
      refine lv_iconst (v := -1) hx hb d_M_hold_32 (by decide) ?_
      obtain ⟨hv9, rfl⟩ := op_inj hf
      exact wx_iret hx hb hr hlocks hAe hP hS hv9 d_M_hold_33
    ·
      have hf := op_pos hf c8
      refine lv_iload hx hb d_M_hold_18 (lv_at hl 4 rfl) ?_
      refine lv_bipush (v := -9) hx hb d_M_hold_20 (by decide) ?_
      refine lv_icmp_lt (tgt := 32) hx hb d_M_hold_22 (by decide) (fun c9 => ?_) (fun c9 => ?_)
      ·
        have hf := op_pos hf c9
        refine lv_iconst (v := -1) hx hb d_M_hold_32 (by decide) ?_
        obtain ⟨hv9, rfl⟩ := op_inj hf
        exact wx_iret hx hb hr hlocks hAe hP hS hv9 d_M_hold_33
      ·
        have hf := op_neg hf c9
        refine lv_iload hx hb d_M_hold_25 (lv_at hl 4 rfl) ?_
        refine lv_bipush (v := 9) hx hb d_M_hold_27 (by decide) ?_
        refine lv_icmp_le (tgt := 34) hx hb d_M_hold_29 (by decide) (fun c10 => ?_) (fun c10 => ?_)
        ·
          have hf := op_pos hf c10
          refine lv_aload_n hx hb d_M_hold_34 rfl (lv_at hl 0 rfl) ?_
          refine wx_get (v := .int (w6.1 1)) (C := RQ_M) (T := FQ_M) (N := 21) hx hb ht IQ_M hown hK hP 0 (by decide) (e_g2_0 cy ad _) rfl 11 (by decide) (ht _ kw_539) (fun _ h9 => h9) rfl d_M_hold_35 ?_
          refine lv_if_eq (tgt := 44) hx hb d_M_hold_38 (by decide) (fun c11 => ?_) (fun c11 => ?_)
          ·
            have hf := op_pos hf c11
            refine lv_aload_n hx hb d_M_hold_44 rfl (lv_at hl 0 rfl) ?_
            refine wx_get (v := .ref (ad 7)) (C := RQ_M) (T := FQ_M) (N := 21) hx hb ht IQ_M hown hK hP 0 (by decide) (e_g2_0 cy ad _) rfl 7 (by decide) (ht _ kw_535) (fun _ h9 => h9) rfl d_M_hold_45 ?_
            refine lv_iload_n hx hb d_M_hold_48 rfl (lv_at hl 1 rfl) ?_
            refine lv_iconst (v := 2) hx hb d_M_hold_49 (by decide) ?_
            refine lv_imul hx hb d_M_hold_50 ?_
            refine lv_iload_n hx hb d_M_hold_51 rfl (lv_at hl 2 rfl) ?_
            refine lv_iadd hx hb d_M_hold_52 ?_
            refine lv_iload_n hx hb d_M_hold_53 rfl (lv_at hl 3 rfl) ?_
            obtain ⟨h12, hf⟩ := op_chk hf
            refine wx_zast hx hb hK hP (hD _) hS 7 (by decide) (by decide) 10 rfl h12 d_M_hold_54 (fun H locs hP hS => ?_)
            obtain ⟨w13, h14, hf⟩ := op_let hf
            rw [h14] at hP
            refine lv_aload_n hx hb d_M_hold_55 rfl (lv_at hl 0 rfl) ?_
            refine wx_get (v := .ref (ad 8)) (C := RQ_M) (T := FQ_M) (N := 21) hx hb ht IQ_M hown hK hP 0 (by decide) (e_g2_0 cy ad _) rfl 8 (by decide) (ht _ kw_536) (fun _ h9 => h9) rfl d_M_hold_56 ?_
            refine lv_iload_n hx hb d_M_hold_59 rfl (lv_at hl 1 rfl) ?_
            refine lv_iconst (v := 2) hx hb d_M_hold_60 (by decide) ?_
            refine lv_imul hx hb d_M_hold_61 ?_
            refine lv_iload_n hx hb d_M_hold_62 rfl (lv_at hl 2 rfl) ?_
            refine lv_iadd hx hb d_M_hold_63 ?_
            refine lv_iload hx hb d_M_hold_64 (lv_at hl 4 rfl) ?_
            obtain ⟨h15, hf⟩ := op_chk hf
            refine wx_iast hx hb hK hP (hD _) hS 8 (by decide) (by decide) 10 rfl h15 d_M_hold_66 (fun H locs hP hS => ?_)
            obtain ⟨w16, h17, hf⟩ := op_let hf
            rw [h17] at hP
            refine lv_iconst (v := 0) hx hb d_M_hold_67 (by decide) ?_
            obtain ⟨hv9, rfl⟩ := op_inj hf
            exact wx_iret hx hb hr hlocks hAe hP hS hv9 d_M_hold_68
          ·
            have hf := op_neg hf c11
            refine lv_bipush (v := -4) hx hb d_M_hold_41 (by decide) ?_
            obtain ⟨hv9, rfl⟩ := op_inj hf
            exact wx_iret hx hb hr hlocks hAe hP hS hv9 d_M_hold_43
        ·
          have hf := op_neg hf c10
          refine lv_iconst (v := -1) hx hb d_M_hold_32 (by decide) ?_
          obtain ⟨hv9, rfl⟩ := op_inj hf
          exact wx_iret hx hb hr hlocks hAe hP hS hv9 d_M_hold_33

def f_M_spring (z0 : gS) (p1 : Int32) (p2 : Int32) (p3 : Int32) : Option (Int32 × gS) :=
 bd2 (f_M_off z0 p1 (4 : Int32)) (fun r3 w2 =>
 if r3 = 0 then (bd2 (f_M_off w2 p2 (1 : Int32)) (fun r7 w6 =>
 if r7 = 0 then (bd2 (f_M_off w6 p3 (3 : Int32)) (fun r11 w10 =>
 if r11 = 0 then (if (w10.1 1) = 0 then (if ((p1 * (2 : Int32)) + p2) < 0 ∨ 10 ≤ ((p1 * (2 : Int32)) + p2).toNatClampNeg then none else
 (some (s_I w10 9 (upd (w10.2.2.1 9) ((p1 * (2 : Int32)) + p2).toNatClampNeg p3))).bind (fun w15 =>
 some ((0 : Int32), w15)))
 else (some ((-4 : Int32), w10)))
 else (some ((-1 : Int32), w10))))
 else (some ((-1 : Int32), w6))))
 else (some ((-1 : Int32), w2)))
set_option maxHeartbeats 4000000 in
set_option maxRecDepth 100000 in
theorem m_M_spring (l : Launch) (D : va_G) (cy : Nat → ClassId) (ad : Nat → Nat) (sz : Nat) (z0 : gS) (p1 : Int32) (p2 : Int32) (p3 : Int32) (r : Int32) (zz : gS) (hf : f_M_spring z0 p1 p2 p3 = some (r, zz)) : Met l y_M_spring (Cond.code y_M_spring c_M_spring 4 (some .int) :: gt_ws) ({ frames := 1, cells := 0, slots := 0, locals := 45 }) (sPc D cl_all (gTy cy) nwM 16 ad (g2 cy ad z0) sz [.ref (ad 0), .int p1, .int p2, .int p3]) (sQi D cl_all 16 ad (g2 cy ad z0) sz r (g2 cy ad zz)) 0 0 (va_A (wl 16 ad (g2 cy ad z0)) sz) := by
  refine Met.ofW (cc := c_M_spring) (maxL := 4) (ret := (some .int)) (by decide) rfl ?_
  intro p e s m args below meth c s₁ B hml hv
  obtain ⟨rfl, hsz, hP, hK, hN, hD0⟩ := hv
  have hx := B.exec
  have hb := B.bytes
  have hr := B.returns
  have hts := atoms_spec (ws := (Cond.code y_M_spring c_M_spring 4 (some .int) :: gt_ws)) B.pre
  have ht : ∀ w ∈ gt_ws, w.before _ s = true := fun w h => hts w (List.mem_cons_of_mem _ h)
  have hown : s.vm.findClass RQ_M = some m.cls := findClass_of_methodNamed B.named
  have hlocks := B.notSynchronized
  subst hsz
  have hD1 := hD0.self (sz := s.heap.size)
  obtain ⟨A, hAe⟩ : ∃ A, A = va_A (wl 16 ad (g2 cy ad z0)) s.heap.size := ⟨_, rfl⟩
  rw [← hAe] at hD1
  have hD : ∀ g, va_D A (wl 16 ad g) := fun _ => wl_D hD1
  have hA : ∀ q : Nat, s.heap.size ≤ q → A q := fun q h => by rw [hAe]; exact Or.inr h
  have hS : va_S A s.heap s.heap [] := va_S.rf
  have hl := lv_entry ([.ref (ad 0), .int p1, .int p2, .int p3]) (n := 4) (Nat.le_of_ble_eq_true rfl)
  rw [lg_entry_eq]
  generalize (lg_sl ([.ref (ad 0), .int p1, .int p2, .int p3]) ++ List.replicate (4 - (lg_sl ([.ref (ad 0), .int p1, .int p2, .int p3])).length) Slot.unset).toArray = ls at hl ⊢
  have hl : lv_has ls 4 [(0, .ref (ad 0)), (1, .int p1), (2, .int p2), (3, .int p3)] := hl
  unfold f_M_spring at hf
  refine lv_aload_n hx hb d_M_spring_0 rfl (lv_at hl 0 rfl) ?_
  refine lv_iload_n hx hb d_M_spring_1 rfl (lv_at hl 1 rfl) ?_
  refine lv_iconst (v := 4) hx hb d_M_spring_2 (by decide) ?_
  obtain ⟨r3, w2, hc1, hf⟩ := op_b2 hf
  refine wx_fi (wx_rV (As := [.int p1, .int (4 : Int32)]) (rest := []) ⟨hx, hb, hml, hown, ht⟩ (m_M_off l D cy ad _ z0 p1 (4 : Int32) _ _ hc1) ⟨callB_of 2 ht (gt_in (fun _ h9 => h9) kw_599) rfl rfl rfl (ht _ kw_52) (ht _ kw_596) q_M_off ⟨Nat.le_of_ble_eq_true rfl, Nat.le_of_ble_eq_true rfl⟩, ht _ kw_598, ht _ kw_24⟩ nwM_ok hN hK hP (hD _) (by decide) (e_g2_0 cy ad _) rfl rfl hl.1 rfl (Nat.le_of_ble_eq_true rfl) d_M_spring_3 ⟨Nat.zero_le _, Nat.zero_le _⟩) (hD _) hS hA (fun H locs hP hS => ?_)
  refine lv_if_ne (tgt := 27) hx hb d_M_spring_6 (by decide) (fun c4 => ?_) (fun c4 => ?_)
  ·
    have hf := op_neg hf c4
    refine lv_iconst (v := -1) hx hb d_M_spring_27 (by decide) ?_
    obtain ⟨hv9, rfl⟩ := op_inj hf
    exact wx_iret hx hb hr hlocks hAe hP hS hv9 d_M_spring_28
  ·
    have hf := op_pos hf c4
    refine lv_aload_n hx hb d_M_spring_9 rfl (lv_at hl 0 rfl) ?_
    refine lv_iload_n hx hb d_M_spring_10 rfl (lv_at hl 2 rfl) ?_
    refine lv_iconst (v := 1) hx hb d_M_spring_11 (by decide) ?_
    obtain ⟨r7, w6, hc5, hf⟩ := op_b2 hf
    refine wx_fi (wx_rV (As := [.int p2, .int (1 : Int32)]) (rest := []) ⟨hx, hb, hml, hown, ht⟩ (m_M_off l D cy ad _ w2 p2 (1 : Int32) _ _ hc5) ⟨callB_of 2 ht (gt_in (fun _ h9 => h9) kw_599) rfl rfl rfl (ht _ kw_52) (ht _ kw_596) q_M_off ⟨Nat.le_of_ble_eq_true rfl, Nat.le_of_ble_eq_true rfl⟩, ht _ kw_598, ht _ kw_24⟩ nwM_ok hN hK hP (hD _) (by decide) (e_g2_0 cy ad _) rfl rfl hl.1 rfl (Nat.le_of_ble_eq_true rfl) d_M_spring_12 ⟨Nat.zero_le _, Nat.zero_le _⟩) (hD _) hS hA (fun H locs hP hS => ?_)
    refine lv_if_ne (tgt := 27) hx hb d_M_spring_15 (by decide) (fun c8 => ?_) (fun c8 => ?_)
    ·
      have hf := op_neg hf c8
      refine lv_iconst (v := -1) hx hb d_M_spring_27 (by decide) ?_
      obtain ⟨hv9, rfl⟩ := op_inj hf
      exact wx_iret hx hb hr hlocks hAe hP hS hv9 d_M_spring_28
    ·
      have hf := op_pos hf c8
      refine lv_aload_n hx hb d_M_spring_18 rfl (lv_at hl 0 rfl) ?_
      refine lv_iload_n hx hb d_M_spring_19 rfl (lv_at hl 3 rfl) ?_
      refine lv_iconst (v := 3) hx hb d_M_spring_20 (by decide) ?_
      obtain ⟨r11, w10, hc9, hf⟩ := op_b2 hf
      refine wx_fi (wx_rV (As := [.int p3, .int (3 : Int32)]) (rest := []) ⟨hx, hb, hml, hown, ht⟩ (m_M_off l D cy ad _ w6 p3 (3 : Int32) _ _ hc9) ⟨callB_of 2 ht (gt_in (fun _ h9 => h9) kw_599) rfl rfl rfl (ht _ kw_52) (ht _ kw_596) q_M_off ⟨Nat.le_of_ble_eq_true rfl, Nat.le_of_ble_eq_true rfl⟩, ht _ kw_598, ht _ kw_24⟩ nwM_ok hN hK hP (hD _) (by decide) (e_g2_0 cy ad _) rfl rfl hl.1 rfl (Nat.le_of_ble_eq_true rfl) d_M_spring_21 ⟨Nat.zero_le _, Nat.zero_le _⟩) (hD _) hS hA (fun H locs hP hS => ?_)
      refine lv_if_eq (tgt := 29) hx hb d_M_spring_24 (by decide) (fun c12 => ?_) (fun c12 => ?_)
      ·
        have hf := op_pos hf c12
        refine lv_aload_n hx hb d_M_spring_29 rfl (lv_at hl 0 rfl) ?_
        refine wx_get (v := .int (w10.1 1)) (C := RQ_M) (T := FQ_M) (N := 21) hx hb ht IQ_M hown hK hP 0 (by decide) (e_g2_0 cy ad _) rfl 11 (by decide) (ht _ kw_539) (fun _ h9 => h9) rfl d_M_spring_30 ?_
        refine lv_if_eq (tgt := 39) hx hb d_M_spring_33 (by decide) (fun c13 => ?_) (fun c13 => ?_)
        ·
          have hf := op_pos hf c13
          refine lv_aload_n hx hb d_M_spring_39 rfl (lv_at hl 0 rfl) ?_
          refine wx_get (v := .ref (ad 9)) (C := RQ_M) (T := FQ_M) (N := 21) hx hb ht IQ_M hown hK hP 0 (by decide) (e_g2_0 cy ad _) rfl 9 (by decide) (ht _ kw_537) (fun _ h9 => h9) rfl d_M_spring_40 ?_
          refine lv_iload_n hx hb d_M_spring_43 rfl (lv_at hl 1 rfl) ?_
          refine lv_iconst (v := 2) hx hb d_M_spring_44 (by decide) ?_
          refine lv_imul hx hb d_M_spring_45 ?_
          refine lv_iload_n hx hb d_M_spring_46 rfl (lv_at hl 2 rfl) ?_
          refine lv_iadd hx hb d_M_spring_47 ?_
          refine lv_iload_n hx hb d_M_spring_48 rfl (lv_at hl 3 rfl) ?_
          obtain ⟨h14, hf⟩ := op_chk hf
          refine wx_iast hx hb hK hP (hD _) hS 9 (by decide) (by decide) 10 rfl h14 d_M_spring_49 (fun H locs hP hS => ?_)
          obtain ⟨w15, h16, hf⟩ := op_let hf
          rw [h16] at hP
          refine lv_iconst (v := 0) hx hb d_M_spring_50 (by decide) ?_
          obtain ⟨hv9, rfl⟩ := op_inj hf
          exact wx_iret hx hb hr hlocks hAe hP hS hv9 d_M_spring_51
        ·
          have hf := op_neg hf c13
          refine lv_bipush (v := -4) hx hb d_M_spring_36 (by decide) ?_
          obtain ⟨hv9, rfl⟩ := op_inj hf
          exact wx_iret hx hb hr hlocks hAe hP hS hv9 d_M_spring_38
      ·
        have hf := op_neg hf c12
        refine lv_iconst (v := -1) hx hb d_M_spring_27 (by decide) ?_
        obtain ⟨hv9, rfl⟩ := op_inj hf
        exact wx_iret hx hb hr hlocks hAe hP hS hv9 d_M_spring_28
