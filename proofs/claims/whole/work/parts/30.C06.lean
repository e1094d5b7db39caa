def l_N_turnRound_9 : Nat → gS → Int32 → Int32 → Option (gS)
  | 0, _, _, _ => none
  | n + 1, z, x1, x2 =>
    if x2 ≤ x1 then (some z)
     else (if x1 < 0 ∨ 5 ≤ x1.toNatClampNeg then none else
     (some ((z.2.2.1 12 x1.toNatClampNeg) : Int32)).bind (fun v3 =>
     if x2 < 0 ∨ 5 ≤ x2.toNatClampNeg then none else
     if x1 < 0 ∨ 5 ≤ x1.toNatClampNeg then none else
     (some (s_I z 12 (upd (z.2.2.1 12) x1.toNatClampNeg (z.2.2.1 12 x2.toNatClampNeg)))).bind (fun w7 =>
     if x2 < 0 ∨ 5 ≤ x2.toNatClampNeg then none else
     (some (s_I w7 12 (upd (w7.2.2.1 12) x2.toNatClampNeg v3))).bind (fun w10 =>
     l_N_turnRound_9 n w10 (x1 + (1 : Int32)) (x2 + (-1 : Int32))))))
def f_N_turnRound (z0 : gS) : Option gS :=
 (some (((z0.1 3) - (1 : Int32)) : Int32)).bind (fun v12 =>
 bd1 (l_N_turnRound_9 200 z0 (0 : Int32) v12) (fun w14 =>
 some w14))
set_option maxHeartbeats 4000000 in
set_option maxRecDepth 100000 in
theorem m_N_turnRound (l : Launch) (D : va_G) (cy : Nat → ClassId) (ad : Nat → Nat) (sz : Nat) (z0 : gS) (zz : gS) (hf : f_N_turnRound z0 = some zz) : Met l y_N_turnRound (Cond.code y_N_turnRound c_N_turnRound 4 none :: gt_ws) ({ frames := 0, cells := 0, slots := 0, locals := 0 }) (sPc D cl_all (gTy cy) nwC 52 ad (g1 cy ad z0) sz [.ref (ad 2)]) (sQv D cl_all 52 ad (g1 cy ad z0) sz (g1 cy ad zz)) 0 0 (va_A (wl 52 ad (g1 cy ad z0)) sz) := by
  refine Met.ofW (cc := c_N_turnRound) (maxL := 4) (ret := none) (by decide) rfl ?_
  intro p e s m args below meth c s₁ B hml hv
  obtain ⟨rfl, hsz, hP, hK, hN, hD0⟩ := hv
  have hx := B.exec
  have hb := B.bytes
  have hr := B.returns
  have hts := atoms_spec (ws := (Cond.code y_N_turnRound c_N_turnRound 4 none :: gt_ws)) B.pre
  have ht : ∀ w ∈ gt_ws, w.before _ s = true := fun w h => hts w (List.mem_cons_of_mem _ h)
  have hown : s.vm.findClass RQ_N = some m.cls := findClass_of_methodNamed B.named
  have hlocks := B.notSynchronized
  subst hsz
  have hD1 := hD0.self (sz := s.heap.size)
  obtain ⟨A, hAe⟩ : ∃ A, A = va_A (wl 52 ad (g1 cy ad z0)) s.heap.size := ⟨_, rfl⟩
  rw [← hAe] at hD1
  have hD : ∀ g, va_D A (wl 52 ad g) := fun _ => wl_D hD1
  have hA : ∀ q : Nat, s.heap.size ≤ q → A q := fun q h => by rw [hAe]; exact Or.inr h
  have hS : va_S A s.heap s.heap [] := va_S.rf
  have hl := lv_entry ([.ref (ad 2)]) (n := 4) (Nat.le_of_ble_eq_true rfl)
  rw [lg_entry_eq]
  generalize (lg_sl ([.ref (ad 2)]) ++ List.replicate (4 - (lg_sl ([.ref (ad 2)])).length) Slot.unset).toArray = ls at hl ⊢
  have hl : lv_has ls 4 [(0, .ref (ad 2))] := hl
  have L_9 : ∀ (n : Nat) (z : gS) (x1 : Int32) (x2 : Int32) (z9 : gS), l_N_turnRound_9 n z x1 x2 = some z9 → ∀ (H : Heap) (locs : List Loc) (ls : Array Slot), va_P D cl_all (wl 52 ad (g1 cy ad z)) H → va_S A s.heap H locs → lv_has ls 4 [(0, .ref (ad 2)), (1, .int x1), (2, .int x2)] →
      (∀ (H : Heap) (locs : List Loc) (ls : Array Slot), va_P D cl_all (wl 52 ad (g1 cy ad z9)) H → va_S A s.heap H locs → lv_has ls 4 [] → W p l e (headSpec (Cond.code y_N_turnRound c_N_turnRound 4 none :: gt_ws) ({ frames := 0, cells := 0, slots := 0, locals := 0 })).room s m ([.ref (ad 2)]).toArray below meth c H locs 0 0 (MQ below (sQv D cl_all 52 ad (g1 cy ad z0) s.heap.size (g1 cy ad zz)) ([.ref (ad 2)]).toArray s 0 0 (va_A (wl 52 ad (g1 cy ad z0)) s.heap.size)) (F0 m 49 ls [])) →
      W p l e (headSpec (Cond.code y_N_turnRound c_N_turnRound 4 none :: gt_ws) ({ frames := 0, cells := 0, slots := 0, locals := 0 })).room s m ([.ref (ad 2)]).toArray below meth c H locs 0 0 (MQ below (sQv D cl_all 52 ad (g1 cy ad z0) s.heap.size (g1 cy ad zz)) ([.ref (ad 2)]).toArray s 0 0 (va_A (wl 52 ad (g1 cy ad z0)) s.heap.size)) (F0 m 9 ls []) := by
    intro n
    induction n with
    | zero => intro z x1 x2 z9 hf; rw [l_N_turnRound_9] at hf; cases hf
    | succ n ih =>
      intro z x1 x2 z9 hf H locs ls hP hS hl k_0
      rw [l_N_turnRound_9] at hf
      refine lv_iload_n hx hb d_N_turnRound_9 rfl (lv_at hl 1 rfl) ?_
      refine lv_iload_n hx hb d_N_turnRound_10 rfl (lv_at hl 2 rfl) ?_
      refine lv_icmp_ge (tgt := 49) hx hb d_N_turnRound_11 (by decide) (fun c1 => ?_) (fun c1 => ?_)
      ·
        have hf := op_pos hf c1
        cases hf
        exact k_0 _ _ _ hP hS (lv_sub hl [] rfl)
      ·
        have hf := op_neg hf c1
        refine lv_aload_n hx hb d_N_turnRound_14 rfl (lv_at hl 0 rfl) ?_
        refine wx_get (v := .ref (ad 12)) (C := RQ_N) (T := FQ_N) (N := 7) hx hb ht IQ_N hown hK hP 2 (by decide) (e_g1_2 cy ad _) rfl 0 (by decide) (ht _ kw_129) (fun _ h9 => h9) rfl d_N_turnRound_15 ?_
        refine lv_iload_n hx hb d_N_turnRound_18 rfl (lv_at hl 1 rfl) ?_
        obtain ⟨h2, hf⟩ := op_chk hf
        refine wx_iald hx hb hK hP 12 (by decide) (by decide) 5 rfl h2 d_N_turnRound_19 ?_
        obtain ⟨v3, h4, hf⟩ := op_let hf
        refine sw_i h4 ?_
        refine lv_istore_n (lv' := [(3, .int v3), (0, .ref (ad 2)), (1, .int x1), (2, .int x2)]) hx hb d_N_turnRound_20 rfl hl (by decide) rfl (fun ls hl => ?_)
        refine lv_aload_n hx hb d_N_turnRound_21 rfl (lv_at hl 1 rfl) ?_
        refine wx_get (v := .ref (ad 12)) (C := RQ_N) (T := FQ_N) (N := 7) hx hb ht IQ_N hown hK hP 2 (by decide) (e_g1_2 cy ad _) rfl 0 (by decide) (ht _ kw_129) (fun _ h9 => h9) rfl d_N_turnRound_22 ?_
        refine lv_iload_n hx hb d_N_turnRound_25 rfl (lv_at hl 2 rfl) ?_
        refine lv_aload_n hx hb d_N_turnRound_26 rfl (lv_at hl 1 rfl) ?_
        refine wx_get (v := .ref (ad 12)) (C := RQ_N) (T := FQ_N) (N := 7) hx hb ht IQ_N hown hK hP 2 (by decide) (e_g1_2 cy ad _) rfl 0 (by decide) (ht _ kw_129) (fun _ h9 => h9) rfl d_N_turnRound_27 ?_
        refine lv_iload_n hx hb d_N_turnRound_30 rfl (lv_at hl 3 rfl) ?_
        obtain ⟨h5, hf⟩ := op_chk hf
        refine wx_iald hx hb hK hP 12 (by decide) (by decide) 5 rfl h5 d_N_turnRound_31 ?_
        obtain ⟨h6, hf⟩ := op_chk hf
        refine wx_iast hx hb hK hP (hD _) hS 12 (by decide) (by decide) 5 rfl h6 d_N_turnRound_32 (fun H locs hP hS => ?_)
        obtain ⟨w7, h8, hf⟩ := op_let hf
        rw [h8] at hP
        refine lv_aload_n hx hb d_N_turnRound_33 rfl (lv_at hl 1 rfl) ?_
        refine wx_get (v := .ref (ad 12)) (C := RQ_N) (T := FQ_N) (N := 7) hx hb ht IQ_N hown hK hP 2 (by decide) (e_g1_2 cy ad _) rfl 0 (by decide) (ht _ kw_129) (fun _ h9 => h9) rfl d_N_turnRound_34 ?_
        refine lv_iload_n hx hb d_N_turnRound_37 rfl (lv_at hl 3 rfl) ?_
        refine lv_iload_n hx hb d_N_turnRound_38 rfl (lv_at hl 0 rfl) ?_
        obtain ⟨h9, hf⟩ := op_chk hf
        refine wx_iast hx hb hK hP (hD _) hS 12 (by decide) (by decide) 5 rfl h9 d_N_turnRound_39 (fun H locs hP hS => ?_)
        obtain ⟨w10, h11, hf⟩ := op_let hf
        rw [h11] at hP
        refine lv_iinc (v := x1 + (1 : Int32)) (lv' := [(1, .int (x1 + (1 : Int32))), (3, .int v3), (0, .ref (ad 2)), (2, .int x2)]) hx hb d_N_turnRound_40 hl (k := 2) rfl rfl (by decide) rfl (fun ls hl => ?_)
        refine lv_iinc (v := x2 + (-1 : Int32)) (lv' := [(2, .int (x2 + (-1 : Int32))), (1, .int (x1 + (1 : Int32))), (3, .int v3), (0, .ref (ad 2))]) hx hb d_N_turnRound_43 hl (k := 3) rfl rfl (by decide) rfl (fun ls hl => ?_)
        refine lv_goto (tgt := 9) hx hb d_N_turnRound_46 (by decide) ?_
        exact ih _ _ _ _ hf _ _ _ hP hS (lv_sub hl [3, 1, 0] rfl) k_0
  unfold f_N_turnRound at hf
  refine lv_iconst (v := 0) hx hb d_N_turnRound_0 (by decide) ?_
  refine lv_istore_n (lv' := [(1, .int (0 : Int32)), (0, .ref (ad 2))]) hx hb d_N_turnRound_1 rfl hl (by decide) rfl (fun ls hl => ?_)
  refine lv_aload_n hx hb d_N_turnRound_2 rfl (lv_at hl 1 rfl) ?_
  refine wx_get (v := .int (z0.1 3)) (C := RQ_N) (T := FQ_N) (N := 7) hx hb ht IQ_N hown hK hP 2 (by decide) (e_g1_2 cy ad _) rfl 1 (by decide) (ht _ kw_131) (fun _ h9 => h9) rfl d_N_turnRound_3 ?_
  refine lv_iconst (v := 1) hx hb d_N_turnRound_6 (by decide) ?_
  refine lv_isub hx hb d_N_turnRound_7 ?_
  obtain ⟨v12, h13, hf⟩ := op_let hf
  refine sw_i h13 ?_
  refine lv_istore_n (lv' := [(2, .int v12), (1, .int (0 : Int32)), (0, .ref (ad 2))]) hx hb d_N_turnRound_8 rfl hl (by decide) rfl (fun ls hl => ?_)
  obtain ⟨w14, hc15, hf⟩ := op_b1 hf
  refine L_9 _ _ _ _ _ hc15 _ _ _ hP hS (lv_sub hl [2, 1, 0] rfl) (fun H locs ls hP hS hl => ?_)
  obtain rfl := Option.some.inj hf
  exact wx_vret hx hb hr hlocks hAe hP hS d_N_turnRound_49

def f_N_numberSlot_1 (z0 : gS) (p1 : Int32) : Option gS :=
 if p1 < 0 ∨ 10 ≤ p1.toNatClampNeg then none else
 if (z0.2.2.1 9 p1.toNatClampNeg) = 0 then (if p1 < 0 ∨ 10 ≤ p1.toNatClampNeg then none else
 (some (s_I z0 14 (upd (z0.2.2.1 14) p1.toNatClampNeg (z0.1 5)))).bind (fun w4 =>
 if (w4.1 5) < 0 ∨ 10 ≤ (w4.1 5).toNatClampNeg then none else
 (some (s_I w4 15 (upd (w4.2.2.1 15) (w4.1 5).toNatClampNeg p1))).bind (fun w7 =>
 (some (((w7.1 5) + (1 : Int32)) : Int32)).bind (fun v9 =>
 (some (s_i w7 5 v9)).bind (fun w11 =>
 some w11)))))
 else (if p1 < 0 ∨ 10 ≤ p1.toNatClampNeg then none else
 (some (s_I z0 14 (upd (z0.2.2.1 14) p1.toNatClampNeg (-2 : Int32)))).bind (fun w14 =>
 some w14))
set_option maxHeartbeats 4000000 in
set_option maxRecDepth 100000 in
theorem m_N_numberSlot_1 (l : Launch) (D : va_G) (cy : Nat → ClassId) (ad : Nat → Nat) (sz : Nat) (z0 : gS) (p1 : Int32) (zz : gS) (hf : f_N_numberSlot_1 z0 p1 = some zz) : Met l y_N_numberSlot (Cond.code y_N_numberSlot c_N_numberSlot 3 none :: gt_ws) ({ frames := 0, cells := 0, slots := 0, locals := 0 }) (sPc D cl_all (gTy cy) nwC 52 ad (g1 cy ad z0) sz [.ref (ad 2), .int p1, .ref (ad 1)]) (sQv D cl_all 52 ad (g1 cy ad z0) sz (g1 cy ad zz)) 0 0 (va_A (wl 52 ad (g1 cy ad z0)) sz) := by
  refine Met.ofW (cc := c_N_numberSlot) (maxL := 3) (ret := none) (by decide) rfl ?_
  intro p e s m args below meth c s₁ B hml hv
  obtain ⟨rfl, hsz, hP, hK, hN, hD0⟩ := hv
  have hx := B.exec
  have hb := B.bytes
  have hr := B.returns
  have hts := atoms_spec (ws := (Cond.code y_N_numberSlot c_N_numberSlot 3 none :: gt_ws)) B.pre
  have ht : ∀ w ∈ gt_ws, w.before _ s = true := fun w h => hts w (List.mem_cons_of_mem _ h)
  have hown : s.vm.findClass RQ_N = some m.cls := findClass_of_methodNamed B.named
  have hlocks := B.notSynchronized
  subst hsz
  have hD1 := hD0.self (sz := s.heap.size)
  obtain ⟨A, hAe⟩ : ∃ A, A = va_A (wl 52 ad (g1 cy ad z0)) s.heap.size := ⟨_, rfl⟩
  rw [← hAe] at hD1
  have hD : ∀ g, va_D A (wl 52 ad g) := fun _ => wl_D hD1
  have hA : ∀ q : Nat, s.heap.size ≤ q → A q := fun q h => by rw [hAe]; exact Or.inr h
  have hS : va_S A s.heap s.heap [] := va_S.rf
  have hl := lv_entry ([.ref (ad 2), .int p1, .ref (ad 1)]) (n := 3) (Nat.le_of_ble_eq_true rfl)
  rw [lg_entry_eq]
  generalize (lg_sl ([.ref (ad 2), .int p1, .ref (ad 1)]) ++ List.replicate (3 - (lg_sl ([.ref (ad 2), .int p1, .ref (ad 1)])).length) Slot.unset).toArray = ls at hl ⊢
  have hl : lv_has ls 3 [(0, .ref (ad 2)), (1, .int p1), (2, .ref (ad 1))] := hl
  unfold f_N_numberSlot_1 at hf
  refine lv_aload_n hx hb d_N_numberSlot_0 rfl (lv_at hl 2 rfl) ?_
  refine wx_get (v := .ref (ad 9)) (C := RQ_T) (T := FQ_T) (N := 10) hx hb ht IQ_T hown hK hP 1 (by decide) (e_g1_1 cy ad _) rfl 6 (by decide) (ht _ kw_90) (fun _ h9 => h9) rfl d_N_numberSlot_1 ?_
  refine lv_iload_n hx hb d_N_numberSlot_4 rfl (lv_at hl 1 rfl) ?_
  obtain ⟨h1, hf⟩ := op_chk hf
  refine wx_zald hx hb hK hP 9 (by decide) (by decide) 10 rfl h1 d_N_numberSlot_5 ?_
  refine lv_if_eq (tgt := 18) hx hb d_N_numberSlot_6 (by decide) (fun c2 => ?_) (fun c2 => ?_)
  ·
    have hf := op_pos hf c2
    refine lv_aload_n hx hb d_N_numberSlot_18 rfl (lv_at hl 0 rfl) ?_
    refine wx_get (v := .ref (ad 14)) (C := RQ_N) (T := FQ_N) (N := 7) hx hb ht IQ_N hown hK hP 2 (by decide) (e_g1_2 cy ad _) rfl 4 (by decide) (ht _ kw_135) (fun _ h9 => h9) rfl d_N_numberSlot_19 ?_
    refine lv_iload_n hx hb d_N_numberSlot_22 rfl (lv_at hl 1 rfl) ?_
    refine lv_aload_n hx hb d_N_numberSlot_23 rfl (lv_at hl 0 rfl) ?_
    refine wx_get (v := .int (z0.1 5)) (C := RQ_N) (T := FQ_N) (N := 7) hx hb ht IQ_N hown hK hP 2 (by decide) (e_g1_2 cy ad _) rfl 6 (by decide) (ht _ kw_140) (fun _ h9 => h9) rfl d_N_numberSlot_24 ?_
    obtain ⟨h3, hf⟩ := op_chk hf
    refine wx_iast hx hb hK hP (hD _) hS 14 (by decide) (by decide) 10 rfl h3 d_N_numberSlot_27 (fun H locs hP hS => ?_)
    obtain ⟨w4, h5, hf⟩ := op_let hf
    rw [h5] at hP
    refine lv_aload_n hx hb d_N_numberSlot_28 rfl (lv_at hl 0 rfl) ?_
    refine wx_get (v := .ref (ad 15)) (C := RQ_N) (T := FQ_N) (N := 7) hx hb ht IQ_N hown hK hP 2 (by decide) (e_g1_2 cy ad _) rfl 5 (by decide) (ht _ kw_137) (fun _ h9 => h9) rfl d_N_numberSlot_29 ?_
    refine lv_aload_n hx hb d_N_numberSlot_32 rfl (lv_at hl 0 rfl) ?_
    refine wx_get (v := .int (w4.1 5)) (C := RQ_N) (T := FQ_N) (N := 7) hx hb ht IQ_N hown hK hP 2 (by decide) (e_g1_2 cy ad _) rfl 6 (by decide) (ht _ kw_140) (fun _ h9 => h9) rfl d_N_numberSlot_33 ?_
    refine lv_iload_n hx hb d_N_numberSlot_36 rfl (lv_at hl 1 rfl) ?_
    obtain ⟨h6, hf⟩ := op_chk hf
    refine wx_iast hx hb hK hP (hD _) hS 15 (by decide) (by decide) 10 rfl h6 d_N_numberSlot_37 (fun H locs hP hS => ?_)
    obtain ⟨w7, h8, hf⟩ := op_let hf
    rw [h8] at hP
    refine lv_aload_n hx hb d_N_numberSlot_38 rfl (lv_at hl 0 rfl) ?_
    refine lv_dup hx hb d_N_numberSlot_39 rfl ?_
    refine wx_get (v := .int (w7.1 5)) (C := RQ_N) (T := FQ_N) (N := 7) hx hb ht IQ_N hown hK hP 2 (by decide) (e_g1_2 cy ad _) rfl 6 (by decide) (ht _ kw_140) (fun _ h9 => h9) rfl d_N_numberSlot_40 ?_
    refine lv_iconst (v := 1) hx hb d_N_numberSlot_43 (by decide) ?_
    refine lv_iadd hx hb d_N_numberSlot_44 ?_
    obtain ⟨v9, h10, hf⟩ := op_let hf
    refine sw_i h10 ?_
    refine wx_put (v := .int v9) (ty := .int) (C := RQ_N) (T := FQ_N) (N := 7) hx hb ht IQ_N TQ_N TQ_N_ok NQ_N hown hK hP (hD _) hS 2 (by decide) (e_g1_2 cy ad _) rfl 6 (by decide) (ht _ kw_140) (fun _ h9 => h9) rfl (by decide +kernel) rfl rfl (Nat.le_of_ble_eq_true rfl) d_N_numberSlot_45 (up_N_unknowns cy ad _ v9) (fun H locs hP hS => ?_)
    obtain ⟨w11, h12, hf⟩ := op_let hf
    rw [h12] at hP
    obtain rfl := Option.some.inj hf
    exact wx_vret hx hb hr hlocks hAe hP hS d_N_numberSlot_48
  ·
    have hf := op_neg hf c2
    refine lv_aload_n hx hb d_N_numberSlot_9 rfl (lv_at hl 0 rfl) ?_
    refine wx_get (v := .ref (ad 14)) (C := RQ_N) (T := FQ_N) (N := 7) hx hb ht IQ_N hown hK hP 2 (by decide) (e_g1_2 cy ad _) rfl 4 (by decide) (ht _ kw_135) (fun _ h9 => h9) rfl d_N_numberSlot_10 ?_
    refine lv_iload_n hx hb d_N_numberSlot_13 rfl (lv_at hl 1 rfl) ?_
    refine lv_bipush (v := -2) hx hb d_N_numberSlot_14 (by decide) ?_
    obtain ⟨h13, hf⟩ := op_chk hf
    refine wx_iast hx hb hK hP (hD _) hS 14 (by decide) (by decide) 10 rfl h13 d_N_numberSlot_16 (fun H locs hP hS => ?_)
    obtain ⟨w14, h15, hf⟩ := op_let hf
    rw [h15] at hP
    obtain rfl := Option.some.inj hf
    exact wx_vret hx hb hr hlocks hAe hP hS d_N_numberSlot_17

def l_N_numberSlots_1_17 : Nat → gS → Int32 → Int32 → Option (Int32 × gS)
  | 0, _, _, _ => none
  | n + 1, z, x2, x3 =>
    if (2 : Int32) ≤ x3 then (some (x2, z))
     else (if x2 < 0 ∨ 5 ≤ x2.toNatClampNeg then none else
     bd2 (f_S_slotOf z (z.2.2.1 12 x2.toNatClampNeg) x3) (fun r5 w4 =>
     bd1 (f_N_numberSlot_1 w4 r5) (fun w7 =>
     l_N_numberSlots_1_17 n w7 x2 (x3 + (1 : Int32)))))
def l_N_numberSlots_1_7 : Nat → gS → Int32 → Option (gS)
  | 0, _, _ => none
  | n + 1, z, x2 =>
    if (z.1 3) ≤ x2 then (some z)
     else (bd2 (l_N_numberSlots_1_17 200 z x2 (0 : Int32)) (fun v9 w10 =>
     l_N_numberSlots_1_7 n w10 (v9 + (1 : Int32))))
def f_N_numberSlots_1 (z0 : gS) : Option gS :=
 (some (s_i z0 5 (0 : Int32))).bind (fun w12 =>
 bd1 (l_N_numberSlots_1_7 200 w12 (0 : Int32)) (fun w14 =>
 some w14))
set_option maxHeartbeats 4000000 in
set_option maxRecDepth 100000 in
theorem m_N_numberSlots_1 (l : Launch) (D : va_G) (cy : Nat → ClassId) (ad : Nat → Nat) (sz : Nat) (z0 : gS) (zz : gS) (hf : f_N_numberSlots_1 z0 = some zz) : Met l y_N_numberSlots (Cond.code y_N_numberSlots c_N_numberSlots 4 none :: gt_ws) ({ frames := 1, cells := 0, slots := 0, locals := 45 }) (sPc D cl_all (gTy cy) nwC 52 ad (g1 cy ad z0) sz [.ref (ad 2), .ref (ad 1)]) (sQv D cl_all 52 ad (g1 cy ad z0) sz (g1 cy ad zz)) 0 0 (va_A (wl 52 ad (g1 cy ad z0)) sz) := by
  refine Met.ofW (cc := c_N_numberSlots) (maxL := 4) (ret := none) (by decide) rfl ?_
  intro p e s m args below meth c s₁ B hml hv
  obtain ⟨rfl, hsz, hP, hK, hN, hD0⟩ := hv
  have hx := B.exec
  have hb := B.bytes
  have hr := B.returns
  have hts := atoms_spec (ws := (Cond.code y_N_numberSlots c_N_numberSlots 4 none :: gt_ws)) B.pre
  have ht : ∀ w ∈ gt_ws, w.before _ s = true := fun w h => hts w (List.mem_cons_of_mem _ h)
  have hown : s.vm.findClass RQ_N = some m.cls := findClass_of_methodNamed B.named
  have hlocks := B.notSynchronized
  subst hsz
  have hD1 := hD0.self (sz := s.heap.size)
  obtain ⟨A, hAe⟩ : ∃ A, A = va_A (wl 52 ad (g1 cy ad z0)) s.heap.size := ⟨_, rfl⟩
  rw [← hAe] at hD1
  have hD : ∀ g, va_D A (wl 52 ad g) := fun _ => wl_D hD1
  have hA : ∀ q : Nat, s.heap.size ≤ q → A q := fun q h => by rw [hAe]; exact Or.inr h
  have hS : va_S A s.heap s.heap [] := va_S.rf
  have hl := lv_entry ([.ref (ad 2), .ref (ad 1)]) (n := 4) (Nat.le_of_ble_eq_true rfl)
  rw [lg_entry_eq]
  generalize (lg_sl ([.ref (ad 2), .ref (ad 1)]) ++ List.replicate (4 - (lg_sl ([.ref (ad 2), .ref (ad 1)])).length) Slot.unset).toArray = ls at hl ⊢
  have hl : lv_has ls 4 [(0, .ref (ad 2)), (1, .ref (ad 1))] := hl
  have L_17 : ∀ (n : Nat) (z : gS) (x2 : Int32) (x3 : Int32) (y2 : Int32) (z9 : gS), l_N_numberSlots_1_17 n z x2 x3 = some (y2, z9) → ∀ (H : Heap) (locs : List Loc) (ls : Array Slot), va_P D cl_all (wl 52 ad (g1 cy ad z)) H → va_S A s.heap H locs → lv_has ls 4 [(0, .ref (ad 2)), (1, .ref (ad 1)), (2, .int x2), (3, .int x3)] →
      (∀ (H : Heap) (locs : List Loc) (ls : Array Slot), va_P D cl_all (wl 52 ad (g1 cy ad z9)) H → va_S A s.heap H locs → lv_has ls 4 [(0, .ref (ad 2)), (1, .ref (ad 1)), (2, .int y2)] → W p l e (headSpec (Cond.code y_N_numberSlots c_N_numberSlots 4 none :: gt_ws) ({ frames := 1, cells := 0, slots := 0, locals := 45 })).room s m ([.ref (ad 2), .ref (ad 1)]).toArray below meth c H locs 0 0 (MQ below (sQv D cl_all 52 ad (g1 cy ad z0) s.heap.size (g1 cy ad zz)) ([.ref (ad 2), .ref (ad 1)]).toArray s 0 0 (va_A (wl 52 ad (g1 cy ad z0)) s.heap.size)) (F0 m 43 ls [])) →
      W p l e (headSpec (Cond.code y_N_numberSlots c_N_numberSlots 4 none :: gt_ws) ({ frames := 1, cells := 0, slots := 0, locals := 45 })).room s m ([.ref (ad 2), .ref (ad 1)]).toArray below meth c H locs 0 0 (MQ below (sQv D cl_all 52 ad (g1 cy ad z0) s.heap.size (g1 cy ad zz)) ([.ref (ad 2), .ref (ad 1)]).toArray s 0 0 (va_A (wl 52 ad (g1 cy ad z0)) s.heap.size)) (F0 m 17 ls []) := by
    intro n
    induction n with
    | zero => intro z x2 x3 y2 z9 hf; rw [l_N_numberSlots_1_17] at hf; cases hf
    | succ n ih =>
      intro z x2 x3 y2 z9 hf H locs ls hP hS hl k_0
      rw [l_N_numberSlots_1_17] at hf
      refine lv_iload_n hx hb d_N_numberSlots_17 rfl (lv_at hl 3 rfl) ?_
      refine lv_iconst (v := 2) hx hb d_N_numberSlots_18 (by decide) ?_
      refine lv_icmp_ge (tgt := 43) hx hb d_N_numberSlots_19 (by decide) (fun c1 => ?_) (fun c1 => ?_)
      ·
        have hf := op_pos hf c1
        cases hf
        exact k_0 _ _ _ hP hS (lv_sub hl [0, 1, 2] rfl)
      ·
        have hf := op_neg hf c1
        refine lv_aload_n hx hb d_N_numberSlots_22 rfl (lv_at hl 0 rfl) ?_
        refine lv_aload_n hx hb d_N_numberSlots_23 rfl (lv_at hl 0 rfl) ?_
        refine wx_get (v := .ref (ad 12)) (C := RQ_N) (T := FQ_N) (N := 7) hx hb ht IQ_N hown hK hP 2 (by decide) (e_g1_2 cy ad _) rfl 0 (by decide) (ht _ kw_129) (fun _ h9 => h9) rfl d_N_numberSlots_24 ?_
        refine lv_iload_n hx hb d_N_numberSlots_27 rfl (lv_at hl 2 rfl) ?_
        obtain ⟨h2, hf⟩ := op_chk hf
        refine wx_iald hx hb hK hP 12 (by decide) (by decide) 5 rfl h2 d_N_numberSlots_28 ?_
        refine lv_iload_n hx hb d_N_numberSlots_29 rfl (lv_at hl 3 rfl) ?_
        obtain ⟨r5, w4, hc3, hf⟩ := op_b2 hf
        refine wx_fi (wx_rSN (As := [.int (z.2.2.1 12 x2.toNatClampNeg), .int x3]) (rest := [.ref (ad 2)]) ⟨hx, hb, hml, hown, ht⟩ (m_S_slotOf l D cy ad _ z (z.2.2.1 12 x2.toNatClampNeg) x3 _ _ hc3) ⟨va_cnB 2 ht (gt_in (fun _ h9 => h9) kw_253) rfl rfl rfl hN.2 (ht _ kw_47) q_S_slotOf ⟨Nat.le_of_ble_eq_true rfl, Nat.le_of_ble_eq_true rfl⟩, ht _ kw_252, trivial⟩ nwC_ok hN hK hP (hD _) rfl hl.1 rfl (Nat.le_of_ble_eq_true rfl) d_N_numberSlots_30 ⟨Nat.zero_le _, Nat.zero_le _⟩) (hD _) hS hA (fun H locs hP hS => ?_)
        refine lv_aload_n hx hb d_N_numberSlots_33 rfl (lv_at hl 1 rfl) ?_
        obtain ⟨w7, hc6, hf⟩ := op_b1 hf
        refine wx_fv (wx_rV (As := [.int r5, .ref (ad 1)]) (rest := []) ⟨hx, hb, hml, hown, ht⟩ (m_N_numberSlot_1 l D cy ad _ w4 r5 _ hc6) ⟨callB_of 2 ht (gt_in (fun _ h9 => h9) kw_367) rfl rfl rfl (ht _ kw_49) (ht _ kw_364) q_N_numberSlot ⟨Nat.le_of_ble_eq_true rfl, Nat.le_of_ble_eq_true rfl⟩, ht _ kw_366, ht _ kw_10⟩ nwC_ok hN hK hP (hD _) (by decide) (e_g1_2 cy ad _) rfl rfl hl.1 rfl (Nat.le_of_ble_eq_true rfl) d_N_numberSlots_34 ⟨Nat.zero_le _, Nat.zero_le _⟩) (hD _) hS hA (fun H locs hP hS => ?_)
        refine lv_iinc (v := x3 + (1 : Int32)) (lv' := [(3, .int (x3 + (1 : Int32))), (0, .ref (ad 2)), (1, .ref (ad 1)), (2, .int x2)]) hx hb d_N_numberSlots_37 hl (k := 3) rfl rfl (by decide) rfl (fun ls hl => ?_)
        refine lv_goto (tgt := 17) hx hb d_N_numberSlots_40 (by decide) ?_
        exact ih _ _ _ _ _ hf _ _ _ hP hS (lv_sub hl [1, 2, 3, 0] rfl) k_0
  have L_7 : ∀ (n : Nat) (z : gS) (x2 : Int32) (z9 : gS), l_N_numberSlots_1_7 n z x2 = some z9 → ∀ (H : Heap) (locs : List Loc) (ls : Array Slot), va_P D cl_all (wl 52 ad (g1 cy ad z)) H → va_S A s.heap H locs → lv_has ls 4 [(0, .ref (ad 2)), (1, .ref (ad 1)), (2, .int x2)] →
      (∀ (H : Heap) (locs : List Loc) (ls : Array Slot), va_P D cl_all (wl 52 ad (g1 cy ad z9)) H → va_S A s.heap H locs → lv_has ls 4 [] → W p l e (headSpec (Cond.code y_N_numberSlots c_N_numberSlots 4 none :: gt_ws) ({ frames := 1, cells := 0, slots := 0, locals := 45 })).room s m ([.ref (ad 2), .ref (ad 1)]).toArray below meth c H locs 0 0 (MQ below (sQv D cl_all 52 ad (g1 cy ad z0) s.heap.size (g1 cy ad zz)) ([.ref (ad 2), .ref (ad 1)]).toArray s 0 0 (va_A (wl 52 ad (g1 cy ad z0)) s.heap.size)) (F0 m 49 ls [])) →
      W p l e (headSpec (Cond.code y_N_numberSlots c_N_numberSlots 4 none :: gt_ws) ({ frames := 1, cells := 0, slots := 0, locals := 45 })).room s m ([.ref (ad 2), .ref (ad 1)]).toArray below meth c H locs 0 0 (MQ below (sQv D cl_all 52 ad (g1 cy ad z0) s.heap.size (g1 cy ad zz)) ([.ref (ad 2), .ref (ad 1)]).toArray s 0 0 (va_A (wl 52 ad (g1 cy ad z0)) s.heap.size)) (F0 m 7 ls []) := by
    intro n
    induction n with
    | zero => intro z x2 z9 hf; rw [l_N_numberSlots_1_7] at hf; cases hf
    | succ n ih =>
      intro z x2 z9 hf H locs ls hP hS hl k_0
      rw [l_N_numberSlots_1_7] at hf
      refine lv_iload_n hx hb d_N_numberSlots_7 rfl (lv_at hl 2 rfl) ?_
      refine lv_aload_n hx hb d_N_numberSlots_8 rfl (lv_at hl 0 rfl) ?_
      refine wx_get (v := .int (z.1 3)) (C := RQ_N) (T := FQ_N) (N := 7) hx hb ht IQ_N hown hK hP 2 (by decide) (e_g1_2 cy ad _) rfl 1 (by decide) (ht _ kw_131) (fun _ h9 => h9) rfl d_N_numberSlots_9 ?_
      refine lv_icmp_ge (tgt := 49) hx hb d_N_numberSlots_12 (by decide) (fun c8 => ?_) (fun c8 => ?_)
      ·
        have hf := op_pos hf c8
        cases hf
        exact k_0 _ _ _ hP hS (lv_sub hl [] rfl)
      ·
        have hf := op_neg hf c8
        refine lv_iconst (v := 0) hx hb d_N_numberSlots_15 (by decide) ?_
        refine lv_istore_n (lv' := [(3, .int (0 : Int32)), (0, .ref (ad 2)), (1, .ref (ad 1)), (2, .int x2)]) hx hb d_N_numberSlots_16 rfl hl (by decide) rfl (fun ls hl => ?_)
        obtain ⟨v9, w10, hc11, hf⟩ := op_b2 hf
        refine L_17 _ _ _ _ _ _ hc11 _ _ _ hP hS (lv_sub hl [1, 2, 3, 0] rfl) (fun H locs ls hP hS hl => ?_)
        refine lv_iinc (v := v9 + (1 : Int32)) (lv' := [(2, .int (v9 + (1 : Int32))), (0, .ref (ad 2)), (1, .ref (ad 1))]) hx hb d_N_numberSlots_43 hl (k := 2) rfl rfl (by decide) rfl (fun ls hl => ?_)
        refine lv_goto (tgt := 7) hx hb d_N_numberSlots_46 (by decide) ?_
        exact ih _ _ _ hf _ _ _ hP hS (lv_sub hl [1, 2, 0] rfl) k_0
  unfold f_N_numberSlots_1 at hf
  refine lv_aload_n hx hb d_N_numberSlots_0 rfl (lv_at hl 0 rfl) ?_
  refine lv_iconst (v := 0) hx hb d_N_numberSlots_1 (by decide) ?_
  refine wx_put (v := .int (0 : Int32)) (ty := .int) (C := RQ_N) (T := FQ_N) (N := 7) hx hb ht IQ_N TQ_N TQ_N_ok NQ_N hown hK hP (hD _) hS 2 (by decide) (e_g1_2 cy ad _) rfl 6 (by decide) (ht _ kw_140) (fun _ h9 => h9) rfl (by decide +kernel) rfl rfl (Nat.le_of_ble_eq_true rfl) d_N_numberSlots_2 (up_N_unknowns cy ad _ (0 : Int32)) (fun H locs hP hS => ?_)
  obtain ⟨w12, h13, hf⟩ := op_let hf
  rw [h13] at hP
  refine lv_iconst (v := 0) hx hb d_N_numberSlots_5 (by decide) ?_
  refine lv_istore_n (lv' := [(2, .int (0 : Int32)), (0, .ref (ad 2)), (1, .ref (ad 1))]) hx hb d_N_numberSlots_6 rfl hl (by decide) rfl (fun ls hl => ?_)
  obtain ⟨w14, hc15, hf⟩ := op_b1 hf
  refine L_7 _ _ _ _ hc15 _ _ _ hP hS (lv_sub hl [1, 2, 0] rfl) (fun H locs ls hP hS hl => ?_)
  obtain rfl := Option.some.inj hf
  exact wx_vret hx hb hr hlocks hAe hP hS d_N_numberSlots_49

def f_N_make_1 (z0 : gS) : Option gS :=
 bd1 (f_N_findNeighbours_1 z0) (fun w2 =>
 bd1 (f_N_placeNodes_1 w2) (fun w4 =>
 bd1 (f_N_turnRound w4) (fun w6 =>
 bd1 (f_N_numberSlots_1 w6) (fun w8 =>
 some w8))))
set_option maxHeartbeats 4000000 in
set_option maxRecDepth 100000 in
theorem m_N_make_1 (l : Launch) (D : va_G) (cy : Nat → ClassId) (ad : Nat → Nat) (sz : Nat) (z0 : gS) (zz : gS) (hf : f_N_make_1 z0 = some zz) : Met l y_N_make (Cond.code y_N_make c_N_make 2 none :: gt_ws) ({ frames := 4, cells := 0, slots := 0, locals := 180 }) (sPc D cl_all (gTy cy) nwC 52 ad (g1 cy ad z0) sz [.ref (ad 2), .ref (ad 1)]) (sQv D cl_all 52 ad (g1 cy ad z0) sz (g1 cy ad zz)) 0 0 (va_A (wl 52 ad (g1 cy ad z0)) sz) := by
  refine Met.ofW (cc := c_N_make) (maxL := 2) (ret := none) (by decide) rfl ?_
  intro p e s m args below meth c s₁ B hml hv
  obtain ⟨rfl, hsz, hP, hK, hN, hD0⟩ := hv
  have hx := B.exec
  have hb := B.bytes
  have hr := B.returns
  have hts := atoms_spec (ws := (Cond.code y_N_make c_N_make 2 none :: gt_ws)) B.pre
  have ht : ∀ w ∈ gt_ws, w.before _ s = true := fun w h => hts w (List.mem_cons_of_mem _ h)
  have hown : s.vm.findClass RQ_N = some m.cls := findClass_of_methodNamed B.named
  have hlocks := B.notSynchronized
  subst hsz
  have hD1 := hD0.self (sz := s.heap.size)
  obtain ⟨A, hAe⟩ : ∃ A, A = va_A (wl 52 ad (g1 cy ad z0)) s.heap.size := ⟨_, rfl⟩
  rw [← hAe] at hD1
  have hD : ∀ g, va_D A (wl 52 ad g) := fun _ => wl_D hD1
  have hA : ∀ q : Nat, s.heap.size ≤ q → A q := fun q h => by rw [hAe]; exact Or.inr h
  have hS : va_S A s.heap s.heap [] := va_S.rf
  have hl := lv_entry ([.ref (ad 2), .ref (ad 1)]) (n := 2) (Nat.le_of_ble_eq_true rfl)
  rw [lg_entry_eq]
  generalize (lg_sl ([.ref (ad 2), .ref (ad 1)]) ++ List.replicate (2 - (lg_sl ([.ref (ad 2), .ref (ad 1)])).length) Slot.unset).toArray = ls at hl ⊢
  have hl : lv_has ls 2 [(0, .ref (ad 2)), (1, .ref (ad 1))] := hl
  unfold f_N_make_1 at hf
  refine lv_aload_n hx hb d_N_make_0 rfl (lv_at hl 0 rfl) ?_
  refine lv_aload_n hx hb d_N_make_1 rfl (lv_at hl 1 rfl) ?_
  obtain ⟨w2, hc1, hf⟩ := op_b1 hf
  refine wx_fv (wx_rV (As := [.ref (ad 1)]) (rest := []) ⟨hx, hb, hml, hown, ht⟩ (m_N_findNeighbours_1 l D cy ad _ z0 _ hc1) ⟨callB_of 1 ht (gt_in (fun _ h9 => h9) kw_333) rfl rfl rfl (ht _ kw_49) (ht _ kw_330) q_N_findNeighbours ⟨Nat.le_of_ble_eq_true rfl, Nat.le_of_ble_eq_true rfl⟩, ht _ kw_332, ht _ kw_3⟩ nwC_ok hN hK hP (hD _) (by decide) (e_g1_2 cy ad _) rfl rfl hl.1 rfl (Nat.le_of_ble_eq_true rfl) d_N_make_2 ⟨Nat.zero_le _, Nat.zero_le _⟩) (hD _) hS hA (fun H locs hP hS => ?_)
  refine lv_aload_n hx hb d_N_make_5 rfl (lv_at hl 0 rfl) ?_
  refine lv_aload_n hx hb d_N_make_6 rfl (lv_at hl 1 rfl) ?_
  obtain ⟨w4, hc3, hf⟩ := op_b1 hf
  refine wx_fv (wx_rV (As := [.ref (ad 1)]) (rest := []) ⟨hx, hb, hml, hown, ht⟩ (m_N_placeNodes_1 l D cy ad _ w2 _ hc3) ⟨callB_of 1 ht (gt_in (fun _ h9 => h9) kw_340) rfl rfl rfl (ht _ kw_49) (ht _ kw_337) q_N_placeNodes ⟨Nat.le_of_ble_eq_true rfl, Nat.le_of_ble_eq_true rfl⟩, ht _ kw_339, ht _ kw_4⟩ nwC_ok hN hK hP (hD _) (by decide) (e_g1_2 cy ad _) rfl rfl hl.1 rfl (Nat.le_of_ble_eq_true rfl) d_N_make_7 ⟨Nat.zero_le _, Nat.zero_le _⟩) (hD _) hS hA (fun H locs hP hS => ?_)
  refine lv_aload_n hx hb d_N_make_10 rfl (lv_at hl 0 rfl) ?_
  obtain ⟨w6, hc5, hf⟩ := op_b1 hf
  refine wx_fv (wx_rV (As := []) (rest := []) ⟨hx, hb, hml, hown, ht⟩ (m_N_turnRound l D cy ad _ w4 _ hc5) ⟨callB_of 0 ht (gt_in (fun _ h9 => h9) kw_358) rfl rfl rfl (ht _ kw_49) (ht _ kw_355) q_N_turnRound ⟨Nat.le_of_ble_eq_true rfl, Nat.le_of_ble_eq_true rfl⟩, ht _ kw_357, ht _ kw_8⟩ nwC_ok hN hK hP (hD _) (by decide) (e_g1_2 cy ad _) rfl rfl hl.1 rfl (Nat.le_of_ble_eq_true rfl) d_N_make_11 ⟨Nat.zero_le _, Nat.zero_le _⟩) (hD _) hS hA (fun H locs hP hS => ?_)
  refine lv_aload_n hx hb d_N_make_14 rfl (lv_at hl 0 rfl) ?_
  refine lv_aload_n hx hb d_N_make_15 rfl (lv_at hl 1 rfl) ?_
  obtain ⟨w8, hc7, hf⟩ := op_b1 hf
  refine wx_fv (wx_rV (As := [.ref (ad 1)]) (rest := []) ⟨hx, hb, hml, hown, ht⟩ (m_N_numberSlots_1 l D cy ad _ w6 _ hc7) ⟨callB_of 1 ht (gt_in (fun _ h9 => h9) kw_362) rfl rfl rfl (ht _ kw_49) (ht _ kw_359) q_N_numberSlots ⟨Nat.le_of_ble_eq_true rfl, Nat.le_of_ble_eq_true rfl⟩, ht _ kw_361, ht _ kw_9⟩ nwC_ok hN hK hP (hD _) (by decide) (e_g1_2 cy ad _) rfl rfl hl.1 rfl (Nat.le_of_ble_eq_true rfl) d_N_make_16 ⟨Nat.zero_le _, Nat.zero_le _⟩) (hD _) hS hA (fun H locs hP hS => ?_)
  obtain rfl := Option.some.inj hf
  exact wx_vret hx hb hr hlocks hAe hP hS d_N_make_19
