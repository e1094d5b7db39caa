def l_N_leastJoined_7 : Nat → gS → Int32 → Int32 → Int32 → Int32 → Option (Int32 × gS)
  | 0, _, _, _, _, _ => none
  | n + 1, z, x1, x2, x3, x4 =>
    if (5 : Int32) ≤ x4 then (some (x2, z))
     else (if x4 < 0 ∨ 5 ≤ x4.toNatClampNeg then none else
     bd2 (f_J_bitCount z (z.2.2.1 13 x4.toNatClampNeg)) (fun r5 w4 =>
     if ((x1 >>> (x4 &&& 31)) &&& (1 : Int32)) = 0 then (l_N_leastJoined_7 n w4 x1 x2 x3 (x4 + (1 : Int32)))
     else (if x3 ≤ r5 then (l_N_leastJoined_7 n w4 x1 x2 x3 (x4 + (1 : Int32)))
     else (l_N_leastJoined_7 n w4 x1 x4 r5 (x4 + (1 : Int32))))))
def f_N_leastJoined (z0 : gS) (p1 : Int32) : Option (Int32 × gS) :=
 bd2 (l_N_leastJoined_7 200 z0 p1 (-1 : Int32) (5 : Int32) (0 : Int32)) (fun v8 w9 =>
 some (v8, w9))
set_option maxHeartbeats 4000000 in
set_option maxRecDepth 100000 in
theorem m_N_leastJoined (l : Launch) (D : va_G) (cy : Nat → ClassId) (ad : Nat → Nat) (sz : Nat) (z0 : gS) (p1 : Int32) (r : Int32) (zz : gS) (hf : f_N_leastJoined z0 p1 = some (r, zz)) : Met l y_N_leastJoined (Cond.code y_N_leastJoined c_N_leastJoined 6 (some .int) :: gt_ws) ({ frames := 1, cells := 0, slots := 0, locals := 45 }) (sPc D cl_all (gTy cy) nwC 52 ad (g1 cy ad z0) sz [.ref (ad 2), .int p1]) (sQi D cl_all 52 ad (g1 cy ad z0) sz r (g1 cy ad zz)) 0 0 (va_A (wl 52 ad (g1 cy ad z0)) sz) := by
  refine Met.ofW (cc := c_N_leastJoined) (maxL := 6) (ret := (some .int)) (by decide) rfl ?_
  intro p e s m args below meth c s₁ B hml hv
  obtain ⟨rfl, hsz, hP, hK, hN, hD0⟩ := hv
  have hx := B.exec
  have hb := B.bytes
  have hr := B.returns
  have hts := atoms_spec (ws := (Cond.code y_N_leastJoined c_N_leastJoined 6 (some .int) :: gt_ws)) B.pre
  have ht : ∀ w ∈ gt_ws, w.before _ s = true := fun w h => hts w (List.mem_cons_of_mem _ h)
  have hown : s.vm.findClass RQ_N = some m.cls := findClass_of_methodNamed B.named
  have hlocks := B.notSynchronized
  subst hsz
  have hD1 := hD0.self (sz := s.heap.size)
  obtain ⟨A, hAe⟩ : ∃ A, A = va_A (wl 52 ad (g1 cy ad z0)) s.heap.size := ⟨_, rfl⟩
  rw [← hAe] at hD1
  have hD : ∀ g, va_D A (wl 52 ad g) := fun _ => wl_D hD1
  have hA : ∀ q : Nat, s.heap.size ≤ q → A q := fun q h => by rw [hAe]; exact Or.inr h
  have hS : va_S A s.heap s.heap [] := va_S.rf
  have hl := lv_entry ([.ref (ad 2), .int p1]) (n := 6) (Nat.le_of_ble_eq_true rfl)
  rw [lg_entry_eq]
  generalize (lg_sl ([.ref (ad 2), .int p1]) ++ List.replicate (6 - (lg_sl ([.ref (ad 2), .int p1])).length) Slot.unset).toArray = ls at hl ⊢
  have hl : lv_has ls 6 [(0, .ref (ad 2)), (1, .int p1)] := hl
  have L_7 : ∀ (n : Nat) (z : gS) (x1 : Int32) (x2 : Int32) (x3 : Int32) (x4 : Int32) (y2 : Int32) (z9 : gS), l_N_leastJoined_7 n z x1 x2 x3 x4 = some (y2, z9) → ∀ (H : Heap) (locs : List Loc) (ls : Array Slot), va_P D cl_all (wl 52 ad (g1 cy ad z)) H → va_S A s.heap H locs → lv_has ls 6 [(0, .ref (ad 2)), (1, .int x1), (2, .int x2), (3, .int x3), (4, .int x4)] →
      (∀ (H : Heap) (locs : List Loc) (ls : Array Slot), va_P D cl_all (wl 52 ad (g1 cy ad z9)) H → va_S A s.heap H locs → lv_has ls 6 [(2, .int y2)] → W p l e (headSpec (Cond.code y_N_leastJoined c_N_leastJoined 6 (some .int) :: gt_ws) ({ frames := 1, cells := 0, slots := 0, locals := 45 })).room s m ([.ref (ad 2), .int p1]).toArray below meth c H locs 0 0 (MQ below (sQi D cl_all 52 ad (g1 cy ad z0) s.heap.size r (g1 cy ad zz)) ([.ref (ad 2), .int p1]).toArray s 0 0 (va_A (wl 52 ad (g1 cy ad z0)) s.heap.size)) (F0 m 52 ls [])) →
      W p l e (headSpec (Cond.code y_N_leastJoined c_N_leastJoined 6 (some .int) :: gt_ws) ({ frames := 1, cells := 0, slots := 0, locals := 45 })).room s m ([.ref (ad 2), .int p1]).toArray below meth c H locs 0 0 (MQ below (sQi D cl_all 52 ad (g1 cy ad z0) s.heap.size r (g1 cy ad zz)) ([.ref (ad 2), .int p1]).toArray s 0 0 (va_A (wl 52 ad (g1 cy ad z0)) s.heap.size)) (F0 m 7 ls []) := by
    intro n
    induction n with
    | zero => intro z x1 x2 x3 x4 y2 z9 hf; rw [l_N_leastJoined_7] at hf; cases hf
    | succ n ih =>
      intro z x1 x2 x3 x4 y2 z9 hf H locs ls hP hS hl k_0
      rw [l_N_leastJoined_7] at hf
      refine lv_iload hx hb d_N_leastJoined_7 (lv_at hl 4 rfl) ?_
      refine lv_iconst (v := 5) hx hb d_N_leastJoined_9 (by decide) ?_
      refine lv_icmp_ge (tgt := 52) hx hb d_N_leastJoined_10 (by decide) (fun c1 => ?_) (fun c1 => ?_)
      ·
        have hf := op_pos hf c1
        cases hf
        exact k_0 _ _ _ hP hS (lv_sub hl [2] rfl)
      ·
        have hf := op_neg hf c1
        refine lv_aload_n hx hb d_N_leastJoined_13 rfl (lv_at hl 0 rfl) ?_
        refine wx_get (v := .ref (ad 13)) (C := RQ_N) (T := FQ_N) (N := 7) hx hb ht IQ_N hown hK hP 2 (by decide) (e_g1_2 cy ad _) rfl 3 (by decide) (ht _ kw_134) (fun _ h9 => h9) rfl d_N_leastJoined_14 ?_
        refine lv_iload hx hb d_N_leastJoined_17 (lv_at hl 4 rfl) ?_
        obtain ⟨h2, hf⟩ := op_chk hf
        refine wx_iald hx hb hK hP 13 (by decide) (by decide) 5 rfl h2 d_N_leastJoined_19 ?_
        obtain ⟨r5, w4, hc3, hf⟩ := op_b2 hf
        refine wx_fi (wx_rS (As := [.int (z.2.2.1 13 x4.toNatClampNeg)]) (rest := []) ⟨hx, hb, hml, hown, ht⟩ (m_J_bitCount l D cy ad _ z (z.2.2.1 13 x4.toNatClampNeg) _ _ hc3) ⟨callB_of 1 ht (gt_in (fun _ h9 => h9) kw_307) rfl rfl rfl (ht _ kw_53) (ht _ kw_346) q_J_bitCount ⟨Nat.le_of_ble_eq_true rfl, Nat.le_of_ble_eq_true rfl⟩, ht _ kw_306⟩ nwC_ok hN hK hP (hD _) rfl hl.1 rfl (Nat.le_of_ble_eq_true rfl) d_N_leastJoined_20 ⟨Nat.zero_le _, Nat.zero_le _⟩) (hD _) hS hA (fun H locs hP hS => ?_)
        refine lv_istore (lv' := [(5, .int r5), (0, .ref (ad 2)), (1, .int x1), (2, .int x2), (3, .int x3), (4, .int x4)]) hx hb d_N_leastJoined_23 hl (by decide) rfl (fun ls hl => ?_)
        refine lv_iload_n hx hb d_N_leastJoined_25 rfl (lv_at hl 2 rfl) ?_
        refine lv_iload hx hb d_N_leastJoined_26 (lv_at hl 5 rfl) ?_
        refine lv_ishr hx hb d_N_leastJoined_28 ?_
        refine lv_iconst (v := 1) hx hb d_N_leastJoined_29 (by decide) ?_
        refine lv_iand hx hb d_N_leastJoined_30 ?_
        refine lv_if_eq (tgt := 46) hx hb d_N_leastJoined_31 (by decide) (fun c6 => ?_) (fun c6 => ?_)
        ·
          have hf := op_pos hf c6
          refine lv_iinc (v := x4 + (1 : Int32)) (lv' := [(4, .int (x4 + (1 : Int32))), (5, .int r5), (0, .ref (ad 2)), (1, .int x1), (2, .int x2), (3, .int x3)]) hx hb d_N_leastJoined_46 hl (k := 5) rfl rfl (by decide) rfl (fun ls hl => ?_)
          refine lv_goto (tgt := 7) hx hb d_N_leastJoined_49 (by decide) ?_
          exact ih _ _ _ _ _ _ _ hf _ _ _ hP hS (lv_sub hl [2, 3, 4, 5, 0] rfl) k_0
        ·
          have hf := op_neg hf c6
          refine lv_iload hx hb d_N_leastJoined_34 (lv_at hl 0 rfl) ?_
          refine lv_iload_n hx hb d_N_leastJoined_36 rfl (lv_at hl 4 rfl) ?_
          refine lv_icmp_ge (tgt := 46) hx hb d_N_leastJoined_37 (by decide) (fun c7 => ?_) (fun c7 => ?_)
          ·
            have hf := op_pos hf c7
            refine lv_iinc (v := x4 + (1 : Int32)) (lv' := [(4, .int (x4 + (1 : Int32))), (5, .int r5), (0, .ref (ad 2)), (1, .int x1), (2, .int x2), (3, .int x3)]) hx hb d_N_leastJoined_46 hl (k := 5) rfl rfl (by decide) rfl (fun ls hl => ?_)
            refine lv_goto (tgt := 7) hx hb d_N_leastJoined_49 (by decide) ?_
            exact ih _ _ _ _ _ _ _ hf _ _ _ hP hS (lv_sub hl [2, 3, 4, 5, 0] rfl) k_0
          ·
            have hf := op_neg hf c7
            refine lv_iload hx hb d_N_leastJoined_40 (lv_at hl 5 rfl) ?_
            refine lv_istore_n (lv' := [(2, .int x4), (5, .int r5), (0, .ref (ad 2)), (1, .int x1), (3, .int x3), (4, .int x4)]) hx hb d_N_leastJoined_42 rfl hl (by decide) rfl (fun ls hl => ?_)
            refine lv_iload hx hb d_N_leastJoined_43 (lv_at hl 1 rfl) ?_
            refine lv_istore_n (lv' := [(3, .int r5), (2, .int x4), (5, .int r5), (0, .ref (ad 2)), (1, .int x1), (4, .int x4)]) hx hb d_N_leastJoined_45 rfl hl (by decide) rfl (fun ls hl => ?_)
            refine lv_iinc (v := x4 + (1 : Int32)) (lv' := [(4, .int (x4 + (1 : Int32))), (3, .int r5), (2, .int x4), (5, .int r5), (0, .ref (ad 2)), (1, .int x1)]) hx hb d_N_leastJoined_46 hl (k := 5) rfl rfl (by decide) rfl (fun ls hl => ?_)
            refine lv_goto (tgt := 7) hx hb d_N_leastJoined_49 (by decide) ?_
            exact ih _ _ _ _ _ _ _ hf _ _ _ hP hS (lv_sub hl [4, 5, 2, 1, 0] rfl) k_0
  unfold f_N_leastJoined at hf
  refine lv_iconst (v := -1) hx hb d_N_leastJoined_0 (by decide) ?_
  refine lv_istore_n (lv' := [(2, .int (-1 : Int32)), (0, .ref (ad 2)), (1, .int p1)]) hx hb d_N_leastJoined_1 rfl hl (by decide) rfl (fun ls hl => ?_)
  refine lv_iconst (v := 5) hx hb d_N_leastJoined_2 (by decide) ?_
  refine lv_istore_n (lv' := [(3, .int (5 : Int32)), (2, .int (-1 : Int32)), (0, .ref (ad 2)), (1, .int p1)]) hx hb d_N_leastJoined_3 rfl hl (by decide) rfl (fun ls hl => ?_)
  refine lv_iconst (v := 0) hx hb d_N_leastJoined_4 (by decide) ?_
  refine lv_istore (lv' := [(4, .int (0 : Int32)), (3, .int (5 : Int32)), (2, .int (-1 : Int32)), (0, .ref (ad 2)), (1, .int p1)]) hx hb d_N_leastJoined_5 hl (by decide) rfl (fun ls hl => ?_)
  obtain ⟨v8, w9, hc10, hf⟩ := op_b2 hf
  refine L_7 _ _ _ _ _ _ _ _ hc10 _ _ _ hP hS (lv_sub hl [3, 4, 2, 1, 0] rfl) (fun H locs ls hP hS hl => ?_)
  refine lv_iload_n hx hb d_N_leastJoined_52 rfl (lv_at hl 0 rfl) ?_
  obtain ⟨hv9, rfl⟩ := op_inj hf
  exact wx_iret hx hb hr hlocks hAe hP hS hv9 d_N_leastJoined_53

def f_N_append (z0 : gS) (p1 : Int32) : Option gS :=
 if p1 < 0 then (some z0)
 else (if (z0.1 3) < (5 : Int32) then (if (z0.1 3) < 0 ∨ 5 ≤ (z0.1 3).toNatClampNeg then none else
 (some (s_I z0 12 (upd (z0.2.2.1 12) (z0.1 3).toNatClampNeg p1))).bind (fun w4 =>
 (some (((w4.1 3) + (1 : Int32)) : Int32)).bind (fun v6 =>
 (some (s_i w4 3 v6)).bind (fun w8 =>
 (some (((w8.1 4) ||| ((1 : Int32) <<< (p1 &&& 31))) : Int32)).bind (fun v10 =>
 (some (s_i w8 4 v10)).bind (fun w12 =>
 some w12))))))
 else (some z0))
set_option maxHeartbeats 4000000 in
set_option maxRecDepth 100000 in
theorem m_N_append (l : Launch) (D : va_G) (cy : Nat → ClassId) (ad : Nat → Nat) (sz : Nat) (z0 : gS) (p1 : Int32) (zz : gS) (hf : f_N_append z0 p1 = some zz) : Met l y_N_append (Cond.code y_N_append c_N_append 2 none :: gt_ws) ({ frames := 0, cells := 0, slots := 0, locals := 0 }) (sPc D cl_all (gTy cy) nwC 52 ad (g1 cy ad z0) sz [.ref (ad 2), .int p1]) (sQv D cl_all 52 ad (g1 cy ad z0) sz (g1 cy ad zz)) 0 0 (va_A (wl 52 ad (g1 cy ad z0)) sz) := by
  refine Met.ofW (cc := c_N_append) (maxL := 2) (ret := none) (by decide) rfl ?_
  intro p e s m args below meth c s₁ B hml hv
  obtain ⟨rfl, hsz, hP, hK, hN, hD0⟩ := hv
  have hx := B.exec
  have hb := B.bytes
  have hr := B.returns
  have hts := atoms_spec (ws := (Cond.code y_N_append c_N_append 2 none :: gt_ws)) B.pre
  have ht : ∀ w ∈ gt_ws, w.before _ s = true := fun w h => hts w (List.mem_cons_of_mem _ h)
  have hown : s.vm.findClass RQ_N = some m.cls := findClass_of_methodNamed B.named
  have hlocks := B.notSynchronized
  subst hsz
  have hD1 := hD0.self (sz := s.heap.size)
  obtain ⟨A, hAe⟩ : ∃ A, A = va_A (wl 52 ad (g1 cy ad z0)) s.heap.size := ⟨_, rfl⟩
  rw [← hAe] at hD1
  have hD : ∀ g, va_D A (wl 52 ad g) := fun _ => wl_D hD1
  have hA : ∀ q : Nat, s.heap.size ≤ q → A q := fun q h => by rw [hAe]; exact Or.inr h
  have hS : va_S A s.heap s.heap [] := va_S.rf
  have hl := lv_entry ([.ref (ad 2), .int p1]) (n := 2) (Nat.le_of_ble_eq_true rfl)
  rw [lg_entry_eq]
  generalize (lg_sl ([.ref (ad 2), .int p1]) ++ List.replicate (2 - (lg_sl ([.ref (ad 2), .int p1])).length) Slot.unset).toArray = ls at hl ⊢
  have hl : lv_has ls 2 [(0, .ref (ad 2)), (1, .int p1)] := hl
  unfold f_N_append at hf
  refine lv_iload_n hx hb d_N_append_0 rfl (lv_at hl 1 rfl) ?_
  refine lv_if_lt (tgt := 12) hx hb d_N_append_1 (by decide) (fun c1 => ?_) (fun c1 => ?_)
  ·
    have hf := op_pos hf c1
    obtain rfl := Option.some.inj hf
    exact wx_vret hx hb hr hlocks hAe hP hS d_N_append_12
  ·
    have hf := op_neg hf c1
    refine lv_aload_n hx hb d_N_append_4 rfl (lv_at hl 0 rfl) ?_
    refine wx_get (v := .int (z0.1 3)) (C := RQ_N) (T := FQ_N) (N := 7) hx hb ht IQ_N hown hK hP 2 (by decide) (e_g1_2 cy ad _) rfl 1 (by decide) (ht _ kw_131) (fun _ h9 => h9) rfl d_N_append_5 ?_
    refine lv_iconst (v := 5) hx hb d_N_append_8 (by decide) ?_
    refine lv_icmp_lt (tgt := 13) hx hb d_N_append_9 (by decide) (fun c2 => ?_) (fun c2 => ?_)
    ·
      have hf := op_pos hf c2
      refine lv_aload_n hx hb d_N_append_13 rfl (lv_at hl 0 rfl) ?_
      refine wx_get (v := .ref (ad 12)) (C := RQ_N) (T := FQ_N) (N := 7) hx hb ht IQ_N hown hK hP 2 (by decide) (e_g1_2 cy ad _) rfl 0 (by decide) (ht _ kw_129) (fun _ h9 => h9) rfl d_N_append_14 ?_
      refine lv_aload_n hx hb d_N_append_17 rfl (lv_at hl 0 rfl) ?_
      refine wx_get (v := .int (z0.1 3)) (C := RQ_N) (T := FQ_N) (N := 7) hx hb ht IQ_N hown hK hP 2 (by decide) (e_g1_2 cy ad _) rfl 1 (by decide) (ht _ kw_131) (fun _ h9 => h9) rfl d_N_append_18 ?_
      refine lv_iload_n hx hb d_N_append_21 rfl (lv_at hl 1 rfl) ?_
      obtain ⟨h3, hf⟩ := op_chk hf
      refine wx_iast hx hb hK hP (hD _) hS 12 (by decide) (by decide) 5 rfl h3 d_N_append_22 (fun H locs hP hS => ?_)
      obtain ⟨w4, h5, hf⟩ := op_let hf
      rw [h5] at hP
      refine lv_aload_n hx hb d_N_append_23 rfl (lv_at hl 0 rfl) ?_
      refine lv_dup hx hb d_N_append_24 rfl ?_
      refine wx_get (v := .int (w4.1 3)) (C := RQ_N) (T := FQ_N) (N := 7) hx hb ht IQ_N hown hK hP 2 (by decide) (e_g1_2 cy ad _) rfl 1 (by decide) (ht _ kw_131) (fun _ h9 => h9) rfl d_N_append_25 ?_
      refine lv_iconst (v := 1) hx hb d_N_append_28 (by decide) ?_
      refine lv_iadd hx hb d_N_append_29 ?_
      obtain ⟨v6, h7, hf⟩ := op_let hf
      refine sw_i h7 ?_
      refine wx_put (v := .int v6) (ty := .int) (C := RQ_N) (T := FQ_N) (N := 7) hx hb ht IQ_N TQ_N TQ_N_ok NQ_N hown hK hP (hD _) hS 2 (by decide) (e_g1_2 cy ad _) rfl 1 (by decide) (ht _ kw_131) (fun _ h9 => h9) rfl (by decide +kernel) rfl rfl (Nat.le_of_ble_eq_true rfl) d_N_append_30 (up_N_placed cy ad _ v6) (fun H locs hP hS => ?_)
      obtain ⟨w8, h9, hf⟩ := op_let hf
      rw [h9] at hP
      refine lv_aload_n hx hb d_N_append_33 rfl (lv_at hl 0 rfl) ?_
      refine lv_dup hx hb d_N_append_34 rfl ?_
      refine wx_get (v := .int (w8.1 4)) (C := RQ_N) (T := FQ_N) (N := 7) hx hb ht IQ_N hown hK hP 2 (by decide) (e_g1_2 cy ad _) rfl 2 (by decide) (ht _ kw_133) (fun _ h9 => h9) rfl d_N_append_35 ?_
      refine lv_iconst (v := 1) hx hb d_N_append_38 (by decide) ?_
      refine lv_iload_n hx hb d_N_append_39 rfl (lv_at hl 1 rfl) ?_
      refine lv_ishl hx hb d_N_append_40 ?_
      refine lv_ior hx hb d_N_append_41 ?_
      obtain ⟨v10, h11, hf⟩ := op_let hf
      refine sw_i h11 ?_
      refine wx_put (v := .int v10) (ty := .int) (C := RQ_N) (T := FQ_N) (N := 7) hx hb ht IQ_N TQ_N TQ_N_ok NQ_N hown hK hP (hD _) hS 2 (by decide) (e_g1_2 cy ad _) rfl 2 (by decide) (ht _ kw_133) (fun _ h9 => h9) rfl (by decide +kernel) rfl rfl (Nat.le_of_ble_eq_true rfl) d_N_append_42 (up_N_taken cy ad _ v10) (fun H locs hP hS => ?_)
      obtain ⟨w12, h13, hf⟩ := op_let hf
      rw [h13] at hP
      obtain rfl := Option.some.inj hf
      exact wx_vret hx hb hr hlocks hAe hP hS d_N_append_45
    ·
      have hf := op_neg hf c2
      obtain rfl := Option.some.inj hf
      exact wx_vret hx hb hr hlocks hAe hP hS d_N_append_12

def l_N_appendNeighboursOf_19 : Nat → gS → Int32 → Int32 → Int32 → Option (gS)
  | 0, _, _, _, _ => none
  | n + 1, z, x1, x2, x3 =>
    if x2 ≤ x3 then (some z)
     else (if x1 < 0 ∨ 5 ≤ x1.toNatClampNeg then none else
     bd2 (f_N_leastJoined z ((z.2.2.1 13 x1.toNatClampNeg) &&& ((z.1 4) ^^^ (-1 : Int32)))) (fun r5 w4 =>
     bd1 (f_N_append w4 r5) (fun w7 =>
     l_N_appendNeighboursOf_19 n w7 x1 x2 (x3 + (1 : Int32)))))
def f_N_appendNeighboursOf (z0 : gS) (p1 : Int32) : Option gS :=
 if p1 < 0 ∨ 5 ≤ p1.toNatClampNeg then none else
 bd2 (f_J_bitCount z0 ((z0.2.2.1 13 p1.toNatClampNeg) &&& ((z0.1 4) ^^^ (-1 : Int32)))) (fun r11 w10 =>
 bd1 (l_N_appendNeighboursOf_19 200 w10 p1 r11 (0 : Int32)) (fun w12 =>
 some w12))
set_option maxHeartbeats 4000000 in
set_option maxRecDepth 100000 in
theorem m_N_appendNeighboursOf (l : Launch) (D : va_G) (cy : Nat → ClassId) (ad : Nat → Nat) (sz : Nat) (z0 : gS) (p1 : Int32) (zz : gS) (hf : f_N_appendNeighboursOf z0 p1 = some zz) : Met l y_N_appendNeighboursOf (Cond.code y_N_appendNeighboursOf c_N_appendNeighboursOf 4 none :: gt_ws) ({ frames := 2, cells := 0, slots := 0, locals := 90 }) (sPc D cl_all (gTy cy) nwC 52 ad (g1 cy ad z0) sz [.ref (ad 2), .int p1]) (sQv D cl_all 52 ad (g1 cy ad z0) sz (g1 cy ad zz)) 0 0 (va_A (wl 52 ad (g1 cy ad z0)) sz) := by
  refine Met.ofW (cc := c_N_appendNeighboursOf) (maxL := 4) (ret := none) (by decide) rfl ?_
  intro p e s m args below meth c s₁ B hml hv
  obtain ⟨rfl, hsz, hP, hK, hN, hD0⟩ := hv
  have hx := B.exec
  have hb := B.bytes
  have hr := B.returns
  have hts := atoms_spec (ws := (Cond.code y_N_appendNeighboursOf c_N_appendNeighboursOf 4 none :: gt_ws)) B.pre
  have ht : ∀ w ∈ gt_ws, w.before _ s = true := fun w h => hts w (List.mem_cons_of_mem _ h)
  have hown : s.vm.findClass RQ_N = some m.cls := findClass_of_methodNamed B.named
  have hlocks := B.notSynchronized
  subst hsz
  have hD1 := hD0.self (sz := s.heap.size)
  obtain ⟨A, hAe⟩ : ∃ A, A = va_A (wl 52 ad (g1 cy ad z0)) s.heap.size := ⟨_, rfl⟩
  rw [← hAe] at hD1
  have hD : ∀ g, va_D A (wl 52 ad g) := fun _ => wl_D hD1
  have hA : ∀ q : Nat, s.heap.size ≤ q → A q := fun q h => by rw [hAe]; exact Or.inr h
  have hS : va_S A s.heap s.heap [] := va_S.rf
  have hl := lv_entry ([.ref (ad 2), .int p1]) (n := 4) (Nat.le_of_ble_eq_true rfl)
  rw [lg_entry_eq]
  generalize (lg_sl ([.ref (ad 2), .int p1]) ++ List.replicate (4 - (lg_sl ([.ref (ad 2), .int p1])).length) Slot.unset).toArray = ls at hl ⊢
  have hl : lv_has ls 4 [(0, .ref (ad 2)), (1, .int p1)] := hl
  have L_19 : ∀ (n : Nat) (z : gS) (x1 : Int32) (x2 : Int32) (x3 : Int32) (z9 : gS), l_N_appendNeighboursOf_19 n z x1 x2 x3 = some z9 → ∀ (H : Heap) (locs : List Loc) (ls : Array Slot), va_P D cl_all (wl 52 ad (g1 cy ad z)) H → va_S A s.heap H locs → lv_has ls 4 [(0, .ref (ad 2)), (1, .int x1), (2, .int x2), (3, .int x3)] →
      (∀ (H : Heap) (locs : List Loc) (ls : Array Slot), va_P D cl_all (wl 52 ad (g1 cy ad z9)) H → va_S A s.heap H locs → lv_has ls 4 [] → W p l e (headSpec (Cond.code y_N_appendNeighboursOf c_N_appendNeighboursOf 4 none :: gt_ws) ({ frames := 2, cells := 0, slots := 0, locals := 90 })).room s m ([.ref (ad 2), .int p1]).toArray below meth c H locs 0 0 (MQ below (sQv D cl_all 52 ad (g1 cy ad z0) s.heap.size (g1 cy ad zz)) ([.ref (ad 2), .int p1]).toArray s 0 0 (va_A (wl 52 ad (g1 cy ad z0)) s.heap.size)) (F0 m 51 ls [])) →
      W p l e (headSpec (Cond.code y_N_appendNeighboursOf c_N_appendNeighboursOf 4 none :: gt_ws) ({ frames := 2, cells := 0, slots := 0, locals := 90 })).room s m ([.ref (ad 2), .int p1]).toArray below meth c H locs 0 0 (MQ below (sQv D cl_all 52 ad (g1 cy ad z0) s.heap.size (g1 cy ad zz)) ([.ref (ad 2), .int p1]).toArray s 0 0 (va_A (wl 52 ad (g1 cy ad z0)) s.heap.size)) (F0 m 19 ls []) := by
    intro n
    induction n with
    | zero => intro z x1 x2 x3 z9 hf; rw [l_N_appendNeighboursOf_19] at hf; cases hf
    | succ n ih =>
      intro z x1 x2 x3 z9 hf H locs ls hP hS hl k_0
      rw [l_N_appendNeighboursOf_19] at hf
      refine lv_iload_n hx hb d_N_appendNeighboursOf_19 rfl (lv_at hl 3 rfl) ?_
      refine lv_iload_n hx hb d_N_appendNeighboursOf_20 rfl (lv_at hl 2 rfl) ?_
      refine lv_icmp_ge (tgt := 51) hx hb d_N_appendNeighboursOf_21 (by decide) (fun c1 => ?_) (fun c1 => ?_)
      ·
        have hf := op_pos hf c1
        cases hf
        exact k_0 _ _ _ hP hS (lv_sub hl [] rfl)
      ·
        have hf := op_neg hf c1
        refine lv_aload_n hx hb d_N_appendNeighboursOf_24 rfl (lv_at hl 0 rfl) ?_
        refine lv_aload_n hx hb d_N_appendNeighboursOf_25 rfl (lv_at hl 0 rfl) ?_
        refine lv_aload_n hx hb d_N_appendNeighboursOf_26 rfl (lv_at hl 0 rfl) ?_
        refine wx_get (v := .ref (ad 13)) (C := RQ_N) (T := FQ_N) (N := 7) hx hb ht IQ_N hown hK hP 2 (by decide) (e_g1_2 cy ad _) rfl 3 (by decide) (ht _ kw_134) (fun _ h9 => h9) rfl d_N_appendNeighboursOf_27 ?_
        refine lv_iload_n hx hb d_N_appendNeighboursOf_30 rfl (lv_at hl 1 rfl) ?_
        obtain ⟨h2, hf⟩ := op_chk hf
        refine wx_iald hx hb hK hP 13 (by decide) (by decide) 5 rfl h2 d_N_appendNeighboursOf_31 ?_
        refine lv_aload_n hx hb d_N_appendNeighboursOf_32 rfl (lv_at hl 0 rfl) ?_
        refine wx_get (v := .int (z.1 4)) (C := RQ_N) (T := FQ_N) (N := 7) hx hb ht IQ_N hown hK hP 2 (by decide) (e_g1_2 cy ad _) rfl 2 (by decide) (ht _ kw_133) (fun _ h9 => h9) rfl d_N_appendNeighboursOf_33 ?_
        refine lv_iconst (v := -1) hx hb d_N_appendNeighboursOf_36 (by decide) ?_
        refine lv_ixor hx hb d_N_appendNeighboursOf_37 ?_
        refine lv_iand hx hb d_N_appendNeighboursOf_38 ?_
        obtain ⟨r5, w4, hc3, hf⟩ := op_b2 hf
        refine wx_fi (wx_rV (As := [.int ((z.2.2.1 13 x1.toNatClampNeg) &&& ((z.1 4) ^^^ (-1 : Int32)))]) (rest := [.ref (ad 2)]) ⟨hx, hb, hml, hown, ht⟩ (m_N_leastJoined l D cy ad _ z ((z.2.2.1 13 x1.toNatClampNeg) &&& ((z.1 4) ^^^ (-1 : Int32))) _ _ hc3) ⟨callB_of 1 ht (gt_in (fun _ h9 => h9) kw_345) rfl rfl rfl (ht _ kw_49) (ht _ kw_342) q_N_leastJoined ⟨Nat.le_of_ble_eq_true rfl, Nat.le_of_ble_eq_true rfl⟩, ht _ kw_344, ht _ kw_5⟩ nwC_ok hN hK hP (hD _) (by decide) (e_g1_2 cy ad _) rfl rfl hl.1 rfl (Nat.le_of_ble_eq_true rfl) d_N_appendNeighboursOf_39 ⟨Nat.zero_le _, Nat.zero_le _⟩) (hD _) hS hA (fun H locs hP hS => ?_)
        obtain ⟨w7, hc6, hf⟩ := op_b1 hf
        refine wx_fv (wx_rV (As := [.int r5]) (rest := []) ⟨hx, hb, hml, hown, ht⟩ (m_N_append l D cy ad _ w4 r5 _ hc6) ⟨callB_of 1 ht (gt_in (fun _ h9 => h9) kw_350) rfl rfl rfl (ht _ kw_49) (ht _ kw_347) q_N_append ⟨Nat.le_of_ble_eq_true rfl, Nat.le_of_ble_eq_true rfl⟩, ht _ kw_349, ht _ kw_6⟩ nwC_ok hN hK hP (hD _) (by decide) (e_g1_2 cy ad _) rfl rfl hl.1 rfl (Nat.le_of_ble_eq_true rfl) d_N_appendNeighboursOf_42 ⟨Nat.zero_le _, Nat.zero_le _⟩) (hD _) hS hA (fun H locs hP hS => ?_)
        refine lv_iinc (v := x3 + (1 : Int32)) (lv' := [(3, .int (x3 + (1 : Int32))), (0, .ref (ad 2)), (1, .int x1), (2, .int x2)]) hx hb d_N_appendNeighboursOf_45 hl (k := 3) rfl rfl (by decide) rfl (fun ls hl => ?_)
        refine lv_goto (tgt := 19) hx hb d_N_appendNeighboursOf_48 (by decide) ?_
        exact ih _ _ _ _ _ hf _ _ _ hP hS (lv_sub hl [1, 2, 3, 0] rfl) k_0
  unfold f_N_appendNeighboursOf at hf
  refine lv_aload_n hx hb d_N_appendNeighboursOf_0 rfl (lv_at hl 0 rfl) ?_
  refine wx_get (v := .ref (ad 13)) (C := RQ_N) (T := FQ_N) (N := 7) hx hb ht IQ_N hown hK hP 2 (by decide) (e_g1_2 cy ad _) rfl 3 (by decide) (ht _ kw_134) (fun _ h9 => h9) rfl d_N_appendNeighboursOf_1 ?_
  refine lv_iload_n hx hb d_N_appendNeighboursOf_4 rfl (lv_at hl 1 rfl) ?_
  obtain ⟨h8, hf⟩ := op_chk hf
  refine wx_iald hx hb hK hP 13 (by decide) (by decide) 5 rfl h8 d_N_appendNeighboursOf_5 ?_
  refine lv_aload_n hx hb d_N_appendNeighboursOf_6 rfl (lv_at hl 0 rfl) ?_
  refine wx_get (v := .int (z0.1 4)) (C := RQ_N) (T := FQ_N) (N := 7) hx hb ht IQ_N hown hK hP 2 (by decide) (e_g1_2 cy ad _) rfl 2 (by decide) (ht _ kw_133) (fun _ h9 => h9) rfl d_N_appendNeighboursOf_7 ?_
  refine lv_iconst (v := -1) hx hb d_N_appendNeighboursOf_10 (by decide) ?_
  refine lv_ixor hx hb d_N_appendNeighboursOf_11 ?_
  refine lv_iand hx hb d_N_appendNeighboursOf_12 ?_
  obtain ⟨r11, w10, hc9, hf⟩ := op_b2 hf
  refine wx_fi (wx_rS (As := [.int ((z0.2.2.1 13 p1.toNatClampNeg) &&& ((z0.1 4) ^^^ (-1 : Int32)))]) (rest := []) ⟨hx, hb, hml, hown, ht⟩ (m_J_bitCount l D cy ad _ z0 ((z0.2.2.1 13 p1.toNatClampNeg) &&& ((z0.1 4) ^^^ (-1 : Int32))) _ _ hc9) ⟨callB_of 1 ht (gt_in (fun _ h9 => h9) kw_307) rfl rfl rfl (ht _ kw_53) (ht _ kw_346) q_J_bitCount ⟨Nat.le_of_ble_eq_true rfl, Nat.le_of_ble_eq_true rfl⟩, ht _ kw_306⟩ nwC_ok hN hK hP (hD _) rfl hl.1 rfl (Nat.le_of_ble_eq_true rfl) d_N_appendNeighboursOf_13 ⟨Nat.zero_le _, Nat.zero_le _⟩) (hD _) hS hA (fun H locs hP hS => ?_)
  refine lv_istore_n (lv' := [(2, .int r11), (0, .ref (ad 2)), (1, .int p1)]) hx hb d_N_appendNeighboursOf_16 rfl hl (by decide) rfl (fun ls hl => ?_)
  refine lv_iconst (v := 0) hx hb d_N_appendNeighboursOf_17 (by decide) ?_
  refine lv_istore_n (lv' := [(3, .int (0 : Int32)), (2, .int r11), (0, .ref (ad 2)), (1, .int p1)]) hx hb d_N_appendNeighboursOf_18 rfl hl (by decide) rfl (fun ls hl => ?_)
  obtain ⟨w12, hc13, hf⟩ := op_b1 hf
  refine L_19 _ _ _ _ _ _ hc13 _ _ _ hP hS (lv_sub hl [2, 3, 1, 0] rfl) (fun H locs ls hP hS hl => ?_)
  obtain rfl := Option.some.inj hf
  exact wx_vret hx hb hr hlocks hAe hP hS d_N_appendNeighboursOf_51

def l_N_placeNodes_1_17 : Nat → gS → Int32 → Int32 → Option (gS)
  | 0, _, _, _ => none
  | n + 1, z, x2, x3 =>
    if x2 ≤ x3 then (some z)
     else (if x3 = (z.1 3) then (bd2 (f_N_leastJoined z ((z.1 1) &&& ((z.1 4) ^^^ (-1 : Int32)))) (fun r8 w7 =>
     bd1 (f_N_append w7 r8) (fun w10 =>
     if x3 < 0 ∨ 5 ≤ x3.toNatClampNeg then none else
     bd1 (f_N_appendNeighboursOf w10 (w10.2.2.1 12 x3.toNatClampNeg)) (fun w13 =>
     l_N_placeNodes_1_17 n w13 x2 (x3 + (1 : Int32))))))
     else (if x3 < 0 ∨ 5 ≤ x3.toNatClampNeg then none else
     bd1 (f_N_appendNeighboursOf z (z.2.2.1 12 x3.toNatClampNeg)) (fun w5 =>
     l_N_placeNodes_1_17 n w5 x2 (x3 + (1 : Int32)))))
def f_N_placeNodes_1 (z0 : gS) : Option gS :=
 (some (s_i z0 3 (0 : Int32))).bind (fun w14 =>
 (some (s_i w14 4 (0 : Int32))).bind (fun w16 =>
 bd2 (f_T_nodeCount w16) (fun r20 w19 =>
 bd1 (l_N_placeNodes_1_17 200 w19 r20 (0 : Int32)) (fun w21 =>
 some w21))))
set_option maxHeartbeats 4000000 in
set_option maxRecDepth 100000 in
theorem m_N_placeNodes_1 (l : Launch) (D : va_G) (cy : Nat → ClassId) (ad : Nat → Nat) (sz : Nat) (z0 : gS) (zz : gS) (hf : f_N_placeNodes_1 z0 = some zz) : Met l y_N_placeNodes (Cond.code y_N_placeNodes c_N_placeNodes 4 none :: gt_ws) ({ frames := 3, cells := 0, slots := 0, locals := 135 }) (sPc D cl_all (gTy cy) nwC 52 ad (g1 cy ad z0) sz [.ref (ad 2), .ref (ad 1)]) (sQv D cl_all 52 ad (g1 cy ad z0) sz (g1 cy ad zz)) 0 0 (va_A (wl 52 ad (g1 cy ad z0)) sz) := by
  refine Met.ofW (cc := c_N_placeNodes) (maxL := 4) (ret := none) (by decide) rfl ?_
  intro p e s m args below meth c s₁ B hml hv
  obtain ⟨rfl, hsz, hP, hK, hN, hD0⟩ := hv
  have hx := B.exec
  have hb := B.bytes
  have hr := B.returns
  have hts := atoms_spec (ws := (Cond.code y_N_placeNodes c_N_placeNodes 4 none :: gt_ws)) B.pre
  have ht : ∀ w ∈ gt_ws, w.before _ s = true := fun w h => hts w (List.mem_cons_of_mem _ h)
  have hown : s.vm.findClass RQ_N = some m.cls := findClass_of_methodNamed B.named
  have hlocks := B.notSynchronized
  subst hsz
  have hD1 := hD0.self (sz := s.heap.size)
  obtain ⟨A, hAe⟩ : ∃ A, A = va_A (wl 52 ad (g1 cy ad z0)) s.heap.size := ⟨_, rfl⟩
  rw [← hAe] at hD1
  have hD : ∀ g, va_D A (wl 52 ad g) := fun _ => wl_D hD1
  have hA : ∀ q : Nat, s.heap.size ≤ q → A q := fun q h => by rw [hAe]; exact Or.inr h
  have hS : va_S A s.heap s.heap [] := va_S.rf
  have hl := lv_entry ([.ref (ad 2), .ref (ad 1)]) (n := 4) (Nat.le_of_ble_eq_true rfl)
  rw [lg_entry_eq]
  generalize (lg_sl ([.ref (ad 2), .ref (ad 1)]) ++ List.replicate (4 - (lg_sl ([.ref (ad 2), .ref (ad 1)])).length) Slot.unset).toArray = ls at hl ⊢
  have hl : lv_has ls 4 [(0, .ref (ad 2)), (1, .ref (ad 1))] := hl
  have L_17 : ∀ (n : Nat) (z : gS) (x2 : Int32) (x3 : Int32) (z9 : gS), l_N_placeNodes_1_17 n z x2 x3 = some z9 → ∀ (H : Heap) (locs : List Loc) (ls : Array Slot), va_P D cl_all (wl 52 ad (g1 cy ad z)) H → va_S A s.heap H locs → lv_has ls 4 [(0, .ref (ad 2)), (1, .ref (ad 1)), (2, .int x2), (3, .int x3)] →
      (∀ (H : Heap) (locs : List Loc) (ls : Array Slot), va_P D cl_all (wl 52 ad (g1 cy ad z9)) H → va_S A s.heap H locs → lv_has ls 4 [] → W p l e (headSpec (Cond.code y_N_placeNodes c_N_placeNodes 4 none :: gt_ws) ({ frames := 3, cells := 0, slots := 0, locals := 135 })).room s m ([.ref (ad 2), .ref (ad 1)]).toArray below meth c H locs 0 0 (MQ below (sQv D cl_all 52 ad (g1 cy ad z0) s.heap.size (g1 cy ad zz)) ([.ref (ad 2), .ref (ad 1)]).toArray s 0 0 (va_A (wl 52 ad (g1 cy ad z0)) s.heap.size)) (F0 m 65 ls [])) →
      W p l e (headSpec (Cond.code y_N_placeNodes c_N_placeNodes 4 none :: gt_ws) ({ frames := 3, cells := 0, slots := 0, locals := 135 })).room s m ([.ref (ad 2), .ref (ad 1)]).toArray below meth c H locs 0 0 (MQ below (sQv D cl_all 52 ad (g1 cy ad z0) s.heap.size (g1 cy ad zz)) ([.ref (ad 2), .ref (ad 1)]).toArray s 0 0 (va_A (wl 52 ad (g1 cy ad z0)) s.heap.size)) (F0 m 17 ls []) := by
    intro n
    induction n with
    | zero => intro z x2 x3 z9 hf; rw [l_N_placeNodes_1_17] at hf; cases hf
    | succ n ih =>
      intro z x2 x3 z9 hf H locs ls hP hS hl k_0
      rw [l_N_placeNodes_1_17] at hf
      refine lv_iload_n hx hb d_N_placeNodes_17 rfl (lv_at hl 3 rfl) ?_
      refine lv_iload_n hx hb d_N_placeNodes_18 rfl (lv_at hl 2 rfl) ?_
      refine lv_icmp_ge (tgt := 65) hx hb d_N_placeNodes_19 (by decide) (fun c1 => ?_) (fun c1 => ?_)
      ·
        have hf := op_pos hf c1
        cases hf
        exact k_0 _ _ _ hP hS (lv_sub hl [] rfl)
      ·
        have hf := op_neg hf c1
        refine lv_iload_n hx hb d_N_placeNodes_22 rfl (lv_at hl 3 rfl) ?_
        refine lv_aload_n hx hb d_N_placeNodes_23 rfl (lv_at hl 0 rfl) ?_
        refine wx_get (v := .int (z.1 3)) (C := RQ_N) (T := FQ_N) (N := 7) hx hb ht IQ_N hown hK hP 2 (by decide) (e_g1_2 cy ad _) rfl 1 (by decide) (ht _ kw_131) (fun _ h9 => h9) rfl d_N_placeNodes_24 ?_
        refine lv_icmp_ne (tgt := 49) hx hb d_N_placeNodes_27 (by decide) (fun c2 => ?_) (fun c2 => ?_)
        ·
          have hf := op_neg hf c2
          refine lv_aload_n hx hb d_N_placeNodes_49 rfl (lv_at hl 0 rfl) ?_
          refine lv_aload_n hx hb d_N_placeNodes_50 rfl (lv_at hl 0 rfl) ?_
          refine wx_get (v := .ref (ad 12)) (C := RQ_N) (T := FQ_N) (N := 7) hx hb ht IQ_N hown hK hP 2 (by decide) (e_g1_2 cy ad _) rfl 0 (by decide) (ht _ kw_129) (fun _ h9 => h9) rfl d_N_placeNodes_51 ?_
          refine lv_iload_n hx hb d_N_placeNodes_54 rfl (lv_at hl 3 rfl) ?_
          obtain ⟨h3, hf⟩ := op_chk hf
          refine wx_iald hx hb hK hP 12 (by decide) (by decide) 5 rfl h3 d_N_placeNodes_55 ?_
          obtain ⟨w5, hc4, hf⟩ := op_b1 hf
          refine wx_fv (wx_rV (As := [.int (z.2.2.1 12 x3.toNatClampNeg)]) (rest := []) ⟨hx, hb, hml, hown, ht⟩ (m_N_appendNeighboursOf l D cy ad _ z (z.2.2.1 12 x3.toNatClampNeg) _ hc4) ⟨callB_of 1 ht (gt_in (fun _ h9 => h9) kw_354) rfl rfl rfl (ht _ kw_49) (ht _ kw_351) q_N_appendNeighboursOf ⟨Nat.le_of_ble_eq_true rfl, Nat.le_of_ble_eq_true rfl⟩, ht _ kw_353, ht _ kw_7⟩ nwC_ok hN hK hP (hD _) (by decide) (e_g1_2 cy ad _) rfl rfl hl.1 rfl (Nat.le_of_ble_eq_true rfl) d_N_placeNodes_56 ⟨Nat.zero_le _, Nat.zero_le _⟩) (hD _) hS hA (fun H locs hP hS => ?_)
          refine lv_iinc (v := x3 + (1 : Int32)) (lv' := [(3, .int (x3 + (1 : Int32))), (0, .ref (ad 2)), (1, .ref (ad 1)), (2, .int x2)]) hx hb d_N_placeNodes_59 hl (k := 3) rfl rfl (by decide) rfl (fun ls hl => ?_)
          refine lv_goto (tgt := 17) hx hb d_N_placeNodes_62 (by decide) ?_
          exact ih _ _ _ _ hf _ _ _ hP hS (lv_sub hl [1, 2, 3, 0] rfl) k_0
        ·
          have hf := op_pos hf c2
          refine lv_aload_n hx hb d_N_placeNodes_30 rfl (lv_at hl 0 rfl) ?_
          refine lv_aload_n hx hb d_N_placeNodes_31 rfl (lv_at hl 0 rfl) ?_
          refine lv_aload_n hx hb d_N_placeNodes_32 rfl (lv_at hl 1 rfl) ?_
          refine wx_get (v := .int (z.1 1)) (C := RQ_T) (T := FQ_T) (N := 10) hx hb ht IQ_T hown hK hP 1 (by decide) (e_g1_1 cy ad _) rfl 0 (by decide) (ht _ kw_74) (fun _ h9 => h9) rfl d_N_placeNodes_33 ?_
          refine lv_aload_n hx hb d_N_placeNodes_36 rfl (lv_at hl 0 rfl) ?_
          refine wx_get (v := .int (z.1 4)) (C := RQ_N) (T := FQ_N) (N := 7) hx hb ht IQ_N hown hK hP 2 (by decide) (e_g1_2 cy ad _) rfl 2 (by decide) (ht _ kw_133) (fun _ h9 => h9) rfl d_N_placeNodes_37 ?_
          refine lv_iconst (v := -1) hx hb d_N_placeNodes_40 (by decide) ?_
          refine lv_ixor hx hb d_N_placeNodes_41 ?_
          refine lv_iand hx hb d_N_placeNodes_42 ?_
          obtain ⟨r8, w7, hc6, hf⟩ := op_b2 hf
          refine wx_fi (wx_rV (As := [.int ((z.1 1) &&& ((z.1 4) ^^^ (-1 : Int32)))]) (rest := [.ref (ad 2)]) ⟨hx, hb, hml, hown, ht⟩ (m_N_leastJoined l D cy ad _ z ((z.1 1) &&& ((z.1 4) ^^^ (-1 : Int32))) _ _ hc6) ⟨callB_of 1 ht (gt_in (fun _ h9 => h9) kw_345) rfl rfl rfl (ht _ kw_49) (ht _ kw_342) q_N_leastJoined ⟨Nat.le_of_ble_eq_true rfl, Nat.le_of_ble_eq_true rfl⟩, ht _ kw_344, ht _ kw_5⟩ nwC_ok hN hK hP (hD _) (by decide) (e_g1_2 cy ad _) rfl rfl hl.1 rfl (Nat.le_of_ble_eq_true rfl) d_N_placeNodes_43 ⟨Nat.zero_le _, Nat.zero_le _⟩) (hD _) hS hA (fun H locs hP hS => ?_)
          obtain ⟨w10, hc9, hf⟩ := op_b1 hf
          refine wx_fv (wx_rV (As := [.int r8]) (rest := []) ⟨hx, hb, hml, hown, ht⟩ (m_N_append l D cy ad _ w7 r8 _ hc9) ⟨callB_of 1 ht (gt_in (fun _ h9 => h9) kw_350) rfl rfl rfl (ht _ kw_49) (ht _ kw_347) q_N_append ⟨Nat.le_of_ble_eq_true rfl, Nat.le_of_ble_eq_true rfl⟩, ht _ kw_349, ht _ kw_6⟩ nwC_ok hN hK hP (hD _) (by decide) (e_g1_2 cy ad _) rfl rfl hl.1 rfl (Nat.le_of_ble_eq_true rfl) d_N_placeNodes_46 ⟨Nat.zero_le _, Nat.zero_le _⟩) (hD _) hS hA (fun H locs hP hS => ?_)
          refine lv_aload_n hx hb d_N_placeNodes_49 rfl (lv_at hl 0 rfl) ?_
          refine lv_aload_n hx hb d_N_placeNodes_50 rfl (lv_at hl 0 rfl) ?_
          refine wx_get (v := .ref (ad 12)) (C := RQ_N) (T := FQ_N) (N := 7) hx hb ht IQ_N hown hK hP 2 (by decide) (e_g1_2 cy ad _) rfl 0 (by decide) (ht _ kw_129) (fun _ h9 => h9) rfl d_N_placeNodes_51 ?_
          refine lv_iload_n hx hb d_N_placeNodes_54 rfl (lv_at hl 3 rfl) ?_
          obtain ⟨h11, hf⟩ := op_chk hf
          refine wx_iald hx hb hK hP 12 (by decide) (by decide) 5 rfl h11 d_N_placeNodes_55 ?_
          obtain ⟨w13, hc12, hf⟩ := op_b1 hf
          refine wx_fv (wx_rV (As := [.int (w10.2.2.1 12 x3.toNatClampNeg)]) (rest := []) ⟨hx, hb, hml, hown, ht⟩ (m_N_appendNeighboursOf l D cy ad _ w10 (w10.2.2.1 12 x3.toNatClampNeg) _ hc12) ⟨callB_of 1 ht (gt_in (fun _ h9 => h9) kw_354) rfl rfl rfl (ht _ kw_49) (ht _ kw_351) q_N_appendNeighboursOf ⟨Nat.le_of_ble_eq_true rfl, Nat.le_of_ble_eq_true rfl⟩, ht _ kw_353, ht _ kw_7⟩ nwC_ok hN hK hP (hD _) (by decide) (e_g1_2 cy ad _) rfl rfl hl.1 rfl (Nat.le_of_ble_eq_true rfl) d_N_placeNodes_56 ⟨Nat.zero_le _, Nat.zero_le _⟩) (hD _) hS hA (fun H locs hP hS => ?_)
          refine lv_iinc (v := x3 + (1 : Int32)) (lv' := [(3, .int (x3 + (1 : Int32))), (0, .ref (ad 2)), (1, .ref (ad 1)), (2, .int x2)]) hx hb d_N_placeNodes_59 hl (k := 3) rfl rfl (by decide) rfl (fun ls hl => ?_)
          refine lv_goto (tgt := 17) hx hb d_N_placeNodes_62 (by decide) ?_
          exact ih _ _ _ _ hf _ _ _ hP hS (lv_sub hl [1, 2, 3, 0] rfl) k_0
  unfold f_N_placeNodes_1 at hf
  refine lv_aload_n hx hb d_N_placeNodes_0 rfl (lv_at hl 0 rfl) ?_
  refine lv_iconst (v := 0) hx hb d_N_placeNodes_1 (by decide) ?_
  refine wx_put (v := .int (0 : Int32)) (ty := .int) (C := RQ_N) (T := FQ_N) (N := 7) hx hb ht IQ_N TQ_N TQ_N_ok NQ_N hown hK hP (hD _) hS 2 (by decide) (e_g1_2 cy ad _) rfl 1 (by decide) (ht _ kw_131) (fun _ h9 => h9) rfl (by decide +kernel) rfl rfl (Nat.le_of_ble_eq_true rfl) d_N_placeNodes_2 (up_N_placed cy ad _ (0 : Int32)) (fun H locs hP hS => ?_)
  obtain ⟨w14, h15, hf⟩ := op_let hf
  rw [h15] at hP
  refine lv_aload_n hx hb d_N_placeNodes_5 rfl (lv_at hl 0 rfl) ?_
  refine lv_iconst (v := 0) hx hb d_N_placeNodes_6 (by decide) ?_
  refine wx_put (v := .int (0 : Int32)) (ty := .int) (C := RQ_N) (T := FQ_N) (N := 7) hx hb ht IQ_N TQ_N TQ_N_ok NQ_N hown hK hP (hD _) hS 2 (by decide) (e_g1_2 cy ad _) rfl 2 (by decide) (ht _ kw_133) (fun _ h9 => h9) rfl (by decide +kernel) rfl rfl (Nat.le_of_ble_eq_true rfl) d_N_placeNodes_7 (up_N_taken cy ad _ (0 : Int32)) (fun H locs hP hS => ?_)
  obtain ⟨w16, h17, hf⟩ := op_let hf
  rw [h17] at hP
  refine lv_aload_n hx hb d_N_placeNodes_10 rfl (lv_at hl 1 rfl) ?_
  obtain ⟨r20, w19, hc18, hf⟩ := op_b2 hf
  refine wx_fi (wx_rV (As := []) (rest := []) ⟨hx, hb, hml, hown, ht⟩ (m_T_nodeCount l D cy ad _ w16 _ _ hc18) ⟨callB_of 0 ht (gt_in (fun _ h9 => h9) kw_304) rfl rfl rfl (ht _ kw_48) (ht _ kw_341) q_T_nodeCount ⟨Nat.le_of_ble_eq_true rfl, Nat.le_of_ble_eq_true rfl⟩, ht _ kw_302, ht _ kw_303⟩ nwC_ok hN hK hP (hD _) (by decide) (e_g1_1 cy ad _) rfl rfl hl.1 rfl (Nat.le_of_ble_eq_true rfl) d_N_placeNodes_11 ⟨Nat.zero_le _, Nat.zero_le _⟩) (hD _) hS hA (fun H locs hP hS => ?_)
  refine lv_istore_n (lv' := [(2, .int r20), (0, .ref (ad 2)), (1, .ref (ad 1))]) hx hb d_N_placeNodes_14 rfl hl (by decide) rfl (fun ls hl => ?_)
  refine lv_iconst (v := 0) hx hb d_N_placeNodes_15 (by decide) ?_
  refine lv_istore_n (lv' := [(3, .int (0 : Int32)), (2, .int r20), (0, .ref (ad 2)), (1, .ref (ad 1))]) hx hb d_N_placeNodes_16 rfl hl (by decide) rfl (fun ls hl => ?_)
  obtain ⟨w21, hc22, hf⟩ := op_b1 hf
  refine L_17 _ _ _ _ _ hc22 _ _ _ hP hS (lv_sub hl [2, 3, 1, 0] rfl) (fun H locs ls hP hS hl => ?_)
  obtain rfl := Option.some.inj hf
  exact wx_vret hx hb hr hlocks hAe hP hS d_N_placeNodes_65
