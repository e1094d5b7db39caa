def f_S_isAnswerable (z0 : gS) (p1 : Int32) (p2 : Int32) (p3 : Int32) : Option (Int32 × gS) :=
 if (z0.1 0) = 0 then (some ((0 : Int32), z0))
 else (bd2 (f_S_isNodeThere z0 p1) (fun r4 w3 =>
 if r4 = 0 then (some ((0 : Int32), w3))
 else (bd2 (f_S_isDirection w3 p2) (fun r8 w7 =>
 if r8 = 0 then (some ((0 : Int32), w7))
 else (bd2 (f_S_isPart w7 p3) (fun r12 w11 =>
 if r12 = 0 then (some ((0 : Int32), w11))
 else (some ((1 : Int32), w11))))))))
set_option maxHeartbeats 4000000 in
set_option maxRecDepth 100000 in
theorem m_S_isAnswerable (l : Launch) (D : va_G) (cy : Nat → ClassId) (ad : Nat → Nat) (sz : Nat) (z0 : gS) (p1 : Int32) (p2 : Int32) (p3 : Int32) (r : Int32) (zz : gS) (hf : f_S_isAnswerable z0 p1 p2 p3 = some (r, zz)) : Met l y_S_isAnswerable (Cond.code y_S_isAnswerable c_S_isAnswerable 4 (some .boolean) :: gt_ws) ({ frames := 2, cells := 0, slots := 0, locals := 90 }) (sPc D cl_all (gTy cy) nwC 52 ad (g1 cy ad z0) sz [.ref (ad 0), .int p1, .int p2, .int p3]) (sQi D cl_all 52 ad (g1 cy ad z0) sz r (g1 cy ad zz)) 0 0 (va_A (wl 52 ad (g1 cy ad z0)) sz) := by
  refine Met.ofW (cc := c_S_isAnswerable) (maxL := 4) (ret := (some .boolean)) (by decide) rfl ?_
  intro p e s m args below meth c s₁ B hml hv
  obtain ⟨rfl, hsz, hP, hK, hN, hD0⟩ := hv
  have hx := B.exec
  have hb := B.bytes
  have hr := B.returns
  have hts := atoms_spec (ws := (Cond.code y_S_isAnswerable c_S_isAnswerable 4 (some .boolean) :: gt_ws)) B.pre
  have ht : ∀ w ∈ gt_ws, w.before _ s = true := fun w h => hts w (List.mem_cons_of_mem _ h)
  have hown : s.vm.findClass RQ_S = some m.cls := findClass_of_methodNamed B.named
  have hlocks := B.notSynchronized
  subst hsz
  have hD1 := hD0.self (sz := s.heap.size)
  obtain ⟨A, hAe⟩ : ∃ A, A = va_A (wl 52 ad (g1 cy ad z0)) s.heap.size := ⟨_, rfl⟩
  rw [← hAe] at hD1
  have hD : ∀ g, va_D A (wl 52 ad g) := fun _ => wl_D hD1
  have hA : ∀ q : Nat, s.heap.size ≤ q → A q := fun q h => by rw [hAe]; exact Or.inr h
  have hS : va_S A s.heap s.heap [] := va_S.rf
  have hl := lv_entry ([.ref (ad 0), .int p1, .int p2, .int p3]) (n := 4) (Nat.le_of_ble_eq_true rfl)
  rw [lg_entry_eq]
  generalize (lg_sl ([.ref (ad 0), .int p1, .int p2, .int p3]) ++ List.replicate (4 - (lg_sl ([.ref (ad 0), .int p1, .int p2, .int p3])).length) Slot.unset).toArray = ls at hl ⊢
  have hl : lv_has ls 4 [(0, .ref (ad 0)), (1, .int p1), (2, .int p2), (3, .int p3)] := hl
  unfold f_S_isAnswerable at hf
  refine lv_aload_n hx hb d_S_isAnswerable_0 rfl (lv_at hl 0 rfl) ?_
  refine wx_get (v := .int (z0.1 0)) (C := RQ_S) (T := FQ_S) (N := 5) hx hb ht IQ_S hown hK hP 0 (by decide) (e_g1_0 cy ad _) rfl 4 (by decide) (ht _ kw_221) (fun _ h9 => h9) rfl d_S_isAnswerable_1 ?_
  refine lv_if_eq (tgt := 33) hx hb d_S_isAnswerable_4 (by decide) (fun c1 => ?_) (fun c1 => ?_)
  ·
    have hf := op_pos hf c1
    refine lv_iconst (v := 0) hx hb d_S_isAnswerable_33 (by decide) ?_
    obtain ⟨hv9, rfl⟩ := op_inj hf
    exact wx_zret hx hb hr hlocks (by first | decide | rfl) hAe hP hS hv9 d_S_isAnswerable_34
  ·
    have hf := op_neg hf c1
    refine lv_aload_n hx hb d_S_isAnswerable_7 rfl (lv_at hl 0 rfl) ?_
    refine lv_iload_n hx hb d_S_isAnswerable_8 rfl (lv_at hl 1 rfl) ?_
    obtain ⟨r4, w3, hc2, hf⟩ := op_b2 hf
    refine wx_fi (wx_rV (As := [.int p1]) (rest := []) ⟨hx, hb, hml, hown, ht⟩ (m_S_isNodeThere l D cy ad _ z0 p1 _ _ hc2) ⟨callB_of 1 ht (gt_in (fun _ h9 => h9) kw_428) rfl rfl rfl (ht _ kw_47) (ht _ kw_425) q_S_isNodeThere ⟨Nat.le_of_ble_eq_true rfl, Nat.le_of_ble_eq_true rfl⟩, ht _ kw_427, ht _ kw_18⟩ nwC_ok hN hK hP (hD _) (by decide) (e_g1_0 cy ad _) rfl rfl hl.1 rfl (Nat.le_of_ble_eq_true rfl) d_S_isAnswerable_9 ⟨Nat.zero_le _, Nat.zero_le _⟩) (hD _) hS hA (fun H locs hP hS => ?_)
    refine lv_if_eq (tgt := 33) hx hb d_S_isAnswerable_12 (by decide) (fun c5 => ?_) (fun c5 => ?_)
    ·
      have hf := op_pos hf c5
      refine lv_iconst (v := 0) hx hb d_S_isAnswerable_33 (by decide) ?_
      obtain ⟨hv9, rfl⟩ := op_inj hf
      exact wx_zret hx hb hr hlocks (by first | decide | rfl) hAe hP hS hv9 d_S_isAnswerable_34
    ·
      have hf := op_neg hf c5
      refine lv_iload_n hx hb d_S_isAnswerable_15 rfl (lv_at hl 2 rfl) ?_
      obtain ⟨r8, w7, hc6, hf⟩ := op_b2 hf
      refine wx_fi (wx_rS (As := [.int p2]) (rest := []) ⟨hx, hb, hml, hown, ht⟩ (m_S_isDirection l D cy ad _ w3 p2 _ _ hc6) ⟨callB_of 1 ht (gt_in (fun _ h9 => h9) kw_284) rfl rfl rfl (ht _ kw_47) (ht _ kw_282) q_S_isDirection ⟨Nat.le_of_ble_eq_true rfl, Nat.le_of_ble_eq_true rfl⟩, ht _ kw_283⟩ nwC_ok hN hK hP (hD _) rfl hl.1 rfl (Nat.le_of_ble_eq_true rfl) d_S_isAnswerable_16 ⟨Nat.zero_le _, Nat.zero_le _⟩) (hD _) hS hA (fun H locs hP hS => ?_)
      refine lv_if_eq (tgt := 33) hx hb d_S_isAnswerable_19 (by decide) (fun c9 => ?_) (fun c9 => ?_)
      ·
        have hf := op_pos hf c9
        refine lv_iconst (v := 0) hx hb d_S_isAnswerable_33 (by decide) ?_
        obtain ⟨hv9, rfl⟩ := op_inj hf
        exact wx_zret hx hb hr hlocks (by first | decide | rfl) hAe hP hS hv9 d_S_isAnswerable_34
      ·
        have hf := op_neg hf c9
        refine lv_iload_n hx hb d_S_isAnswerable_22 rfl (lv_at hl 3 rfl) ?_
        obtain ⟨r12, w11, hc10, hf⟩ := op_b2 hf
        refine wx_fi (wx_rS (As := [.int p3]) (rest := []) ⟨hx, hb, hml, hown, ht⟩ (m_S_isPart l D cy ad _ w7 p3 _ _ hc10) ⟨callB_of 1 ht (gt_in (fun _ h9 => h9) kw_432) rfl rfl rfl (ht _ kw_47) (ht _ kw_430) q_S_isPart ⟨Nat.le_of_ble_eq_true rfl, Nat.le_of_ble_eq_true rfl⟩, ht _ kw_431⟩ nwC_ok hN hK hP (hD _) rfl hl.1 rfl (Nat.le_of_ble_eq_true rfl) d_S_isAnswerable_23 ⟨Nat.zero_le _, Nat.zero_le _⟩) (hD _) hS hA (fun H locs hP hS => ?_)
        refine lv_if_eq (tgt := 33) hx hb d_S_isAnswerable_26 (by decide) (fun c13 => ?_) (fun c13 => ?_)
        ·
          have hf := op_pos hf c13
          refine lv_iconst (v := 0) hx hb d_S_isAnswerable_33 (by decide) ?_
          obtain ⟨hv9, rfl⟩ := op_inj hf
          exact wx_zret hx hb hr hlocks (by first | decide | rfl) hAe hP hS hv9 d_S_isAnswerable_34
        ·
          have hf := op_neg hf c13
          refine lv_iconst (v := 1) hx hb d_S_isAnswerable_29 (by decide) ?_
          refine lv_goto (tgt := 34) hx hb d_S_isAnswerable_30 (by decide) ?_
          obtain ⟨hv9, rfl⟩ := op_inj hf
          exact wx_zret hx hb hr hlocks (by first | decide | rfl) hAe hP hS hv9 d_S_isAnswerable_34

def l_R_chooseCase_2 : Nat → gS → Int32 → Int32 → Option (gS)
  | 0, _, _, _ => none
  | n + 1, z, x1, x2 =>
    if (4 : Int32) ≤ x2 then (some z)
     else (if x2 = x1 then (if x2 < 0 ∨ 4 ≤ x2.toNatClampNeg then none else
     (some (s_I z 16 (upd (z.2.2.1 16) x2.toNatClampNeg (1 : Int32)))).bind (fun w7 =>
     l_R_chooseCase_2 n w7 x1 (x2 + (1 : Int32))))
     else (if x2 < 0 ∨ 4 ≤ x2.toNatClampNeg then none else
     (some (s_I z 16 (upd (z.2.2.1 16) x2.toNatClampNeg (0 : Int32)))).bind (fun w4 =>
     l_R_chooseCase_2 n w4 x1 (x2 + (1 : Int32)))))
def f_R_chooseCase (z0 : gS) (p1 : Int32) : Option gS :=
 bd1 (l_R_chooseCase_2 200 z0 p1 (0 : Int32)) (fun w9 =>
 some w9)
set_option maxHeartbeats 4000000 in
set_option maxRecDepth 100000 in
theorem m_R_chooseCase (l : Launch) (D : va_G) (cy : Nat → ClassId) (ad : Nat → Nat) (sz : Nat) (z0 : gS) (p1 : Int32) (zz : gS) (hf : f_R_chooseCase z0 p1 = some zz) : Met l y_R_chooseCase (Cond.code y_R_chooseCase c_R_chooseCase 3 none :: gt_ws) ({ frames := 0, cells := 0, slots := 0, locals := 0 }) (sPc D cl_all (gTy cy) nwC 52 ad (g1 cy ad z0) sz [.ref (ad 4), .int p1]) (sQv D cl_all 52 ad (g1 cy ad z0) sz (g1 cy ad zz)) 0 0 (va_A (wl 52 ad (g1 cy ad z0)) sz) := by
  refine Met.ofW (cc := c_R_chooseCase) (maxL := 3) (ret := none) (by decide) rfl ?_
  intro p e s m args below meth c s₁ B hml hv
  obtain ⟨rfl, hsz, hP, hK, hN, hD0⟩ := hv
  have hx := B.exec
  have hb := B.bytes
  have hr := B.returns
  have hts := atoms_spec (ws := (Cond.code y_R_chooseCase c_R_chooseCase 3 none :: gt_ws)) B.pre
  have ht : ∀ w ∈ gt_ws, w.before _ s = true := fun w h => hts w (List.mem_cons_of_mem _ h)
  have hown : s.vm.findClass RQ_R = some m.cls := findClass_of_methodNamed B.named
  have hlocks := B.notSynchronized
  subst hsz
  have hD1 := hD0.self (sz := s.heap.size)
  obtain ⟨A, hAe⟩ : ∃ A, A = va_A (wl 52 ad (g1 cy ad z0)) s.heap.size := ⟨_, rfl⟩
  rw [← hAe] at hD1
  have hD : ∀ g, va_D A (wl 52 ad g) := fun _ => wl_D hD1
  have hA : ∀ q : Nat, s.heap.size ≤ q → A q := fun q h => by rw [hAe]; exact Or.inr h
  have hS : va_S A s.heap s.heap [] := va_S.rf
  have hl := lv_entry ([.ref (ad 4), .int p1]) (n := 3) (Nat.le_of_ble_eq_true rfl)
  rw [lg_entry_eq]
  generalize (lg_sl ([.ref (ad 4), .int p1]) ++ List.replicate (3 - (lg_sl ([.ref (ad 4), .int p1])).length) Slot.unset).toArray = ls at hl ⊢
  have hl : lv_has ls 3 [(0, .ref (ad 4)), (1, .int p1)] := hl
  have L_2 : ∀ (n : Nat) (z : gS) (x1 : Int32) (x2 : Int32) (z9 : gS), l_R_chooseCase_2 n z x1 x2 = some z9 → ∀ (H : Heap) (locs : List Loc) (ls : Array Slot), va_P D cl_all (wl 52 ad (g1 cy ad z)) H → va_S A s.heap H locs → lv_has ls 3 [(0, .ref (ad 4)), (1, .int x1), (2, .int x2)] →
      (∀ (H : Heap) (locs : List Loc) (ls : Array Slot), va_P D cl_all (wl 52 ad (g1 cy ad z9)) H → va_S A s.heap H locs → lv_has ls 3 [] → W p l e (headSpec (Cond.code y_R_chooseCase c_R_chooseCase 3 none :: gt_ws) ({ frames := 0, cells := 0, slots := 0, locals := 0 })).room s m ([.ref (ad 4), .int p1]).toArray below meth c H locs 0 0 (MQ below (sQv D cl_all 52 ad (g1 cy ad z0) s.heap.size (g1 cy ad zz)) ([.ref (ad 4), .int p1]).toArray s 0 0 (va_A (wl 52 ad (g1 cy ad z0)) s.heap.size)) (F0 m 29 ls [])) →
      W p l e (headSpec (Cond.code y_R_chooseCase c_R_chooseCase 3 none :: gt_ws) ({ frames := 0, cells := 0, slots := 0, locals := 0 })).room s m ([.ref (ad 4), .int p1]).toArray below meth c H locs 0 0 (MQ below (sQv D cl_all 52 ad (g1 cy ad z0) s.heap.size (g1 cy ad zz)) ([.ref (ad 4), .int p1]).toArray s 0 0 (va_A (wl 52 ad (g1 cy ad z0)) s.heap.size)) (F0 m 2 ls []) := by
    intro n
    induction n with
    | zero => intro z x1 x2 z9 hf; rw [l_R_chooseCase_2] at hf; cases hf
    | succ n ih =>
      intro z x1 x2 z9 hf H locs ls hP hS hl k_0
      rw [l_R_chooseCase_2] at hf
      refine lv_iload_n hx hb d_R_chooseCase_2 rfl (lv_at hl 2 rfl) ?_
      refine lv_iconst (v := 4) hx hb d_R_chooseCase_3 (by decide) ?_
      refine lv_icmp_ge (tgt := 29) hx hb d_R_chooseCase_4 (by decide) (fun c1 => ?_) (fun c1 => ?_)
      ·
        have hf := op_pos hf c1
        cases hf
        exact k_0 _ _ _ hP hS (lv_sub hl [] rfl)
      ·
        have hf := op_neg hf c1
        refine lv_aload_n hx hb d_R_chooseCase_7 rfl (lv_at hl 0 rfl) ?_
        refine wx_get (v := .ref (ad 16)) (C := RQ_R) (T := FQ_R) (N := 6) hx hb ht IQ_R hown hK hP 4 (by decide) (e_g1_4 cy ad _) rfl 0 (by decide) (ht _ kw_197) (fun _ h9 => h9) rfl d_R_chooseCase_8 ?_
        refine lv_iload_n hx hb d_R_chooseCase_11 rfl (lv_at hl 2 rfl) ?_
        refine lv_iload_n hx hb d_R_chooseCase_12 rfl (lv_at hl 2 rfl) ?_
        refine lv_iload_n hx hb d_R_chooseCase_13 rfl (lv_at hl 1 rfl) ?_
        refine lv_icmp_ne (tgt := 21) hx hb d_R_chooseCase_14 (by decide) (fun c2 => ?_) (fun c2 => ?_)
        ·
          have hf := op_neg hf c2
          refine lv_iconst (v := 0) hx hb d_R_chooseCase_21 (by decide) ?_
          obtain ⟨h3, hf⟩ := op_chk hf
          refine wx_iast hx hb hK hP (hD _) hS 16 (by decide) (by decide) 4 rfl h3 d_R_chooseCase_22 (fun H locs hP hS => ?_)
          obtain ⟨w4, h5, hf⟩ := op_let hf
          rw [h5] at hP
          refine lv_iinc (v := x2 + (1 : Int32)) (lv' := [(2, .int (x2 + (1 : Int32))), (0, .ref (ad 4)), (1, .int x1)]) hx hb d_R_chooseCase_23 hl (k := 2) rfl rfl (by decide) rfl (fun ls hl => ?_)
          refine lv_goto (tgt := 2) hx hb d_R_chooseCase_26 (by decide) ?_
          exact ih _ _ _ _ hf _ _ _ hP hS (lv_sub hl [1, 2, 0] rfl) k_0
        ·
          have hf := op_pos hf c2
          refine lv_iconst (v := 1) hx hb d_R_chooseCase_17 (by decide) ?_
          refine lv_goto (tgt := 22) hx hb d_R_chooseCase_18 (by decide) ?_
          obtain ⟨h6, hf⟩ := op_chk hf
          refine wx_iast hx hb hK hP (hD _) hS 16 (by decide) (by decide) 4 rfl h6 d_R_chooseCase_22 (fun H locs hP hS => ?_)
          obtain ⟨w7, h8, hf⟩ := op_let hf
          rw [h8] at hP
          refine lv_iinc (v := x2 + (1 : Int32)) (lv' := [(2, .int (x2 + (1 : Int32))), (0, .ref (ad 4)), (1, .int x1)]) hx hb d_R_chooseCase_23 hl (k := 2) rfl rfl (by decide) rfl (fun ls hl => ?_)
          refine lv_goto (tgt := 2) hx hb d_R_chooseCase_26 (by decide) ?_
          exact ih _ _ _ _ hf _ _ _ hP hS (lv_sub hl [1, 2, 0] rfl) k_0
  unfold f_R_chooseCase at hf
  refine lv_iconst (v := 0) hx hb d_R_chooseCase_0 (by decide) ?_
  refine lv_istore_n (lv' := [(2, .int (0 : Int32)), (0, .ref (ad 4)), (1, .int p1)]) hx hb d_R_chooseCase_1 rfl hl (by decide) rfl (fun ls hl => ?_)
  obtain ⟨w9, hc10, hf⟩ := op_b1 hf
  refine L_2 _ _ _ _ _ hc10 _ _ _ hP hS (lv_sub hl [1, 2, 0] rfl) (fun H locs ls hP hS hl => ?_)
  obtain rfl := Option.some.inj hf
  exact wx_vret hx hb hr hlocks hAe hP hS d_R_chooseCase_29

def f_E_wholeMinor (z0 : gS) : Option (Int64 × gS) :=
 if ((z0.1 6) - (z0.1 6) / (2 : Int32) * (2 : Int32)) = 0 then (if (z0.1 6) < 0 ∨ 11 ≤ (z0.1 6).toNatClampNeg then none else
 some ((z0.2.2.2 20 (z0.1 6).toNatClampNeg), z0))
 else (if (z0.1 6) < 0 ∨ 11 ≤ (z0.1 6).toNatClampNeg then none else
 some ((-(z0.2.2.2 20 (z0.1 6).toNatClampNeg)), z0))
set_option maxHeartbeats 4000000 in
set_option maxRecDepth 100000 in
theorem m_E_wholeMinor (l : Launch) (D : va_G) (cy : Nat → ClassId) (ad : Nat → Nat) (sz : Nat) (z0 : gS) (r : Int64) (zz : gS) (hf : f_E_wholeMinor z0 = some (r, zz)) : Met l y_E_wholeMinor (Cond.code y_E_wholeMinor c_E_wholeMinor 1 (some .long) :: gt_ws) ({ frames := 0, cells := 0, slots := 0, locals := 0 }) (sPc D cl_all (gTy cy) nwC 52 ad (g1 cy ad z0) sz [.ref (ad 3)]) (sQl D cl_all 52 ad (g1 cy ad z0) sz r (g1 cy ad zz)) 0 0 (va_A (wl 52 ad (g1 cy ad z0)) sz) := by
  refine Met.ofW (cc := c_E_wholeMinor) (maxL := 1) (ret := (some .long)) (by decide) rfl ?_
  intro p e s m args below meth c s₁ B hml hv
  obtain ⟨rfl, hsz, hP, hK, hN, hD0⟩ := hv
  have hx := B.exec
  have hb := B.bytes
  have hr := B.returns
  have hts := atoms_spec (ws := (Cond.code y_E_wholeMinor c_E_wholeMinor 1 (some .long) :: gt_ws)) B.pre
  have ht : ∀ w ∈ gt_ws, w.before _ s = true := fun w h => hts w (List.mem_cons_of_mem _ h)
  have hown : s.vm.findClass RQ_E = some m.cls := findClass_of_methodNamed B.named
  have hlocks := B.notSynchronized
  subst hsz
  have hD1 := hD0.self (sz := s.heap.size)
  obtain ⟨A, hAe⟩ : ∃ A, A = va_A (wl 52 ad (g1 cy ad z0)) s.heap.size := ⟨_, rfl⟩
  rw [← hAe] at hD1
  have hD : ∀ g, va_D A (wl 52 ad g) := fun _ => wl_D hD1
  have hA : ∀ q : Nat, s.heap.size ≤ q → A q := fun q h => by rw [hAe]; exact Or.inr h
  have hS : va_S A s.heap s.heap [] := va_S.rf
  have hl := lv_entry ([.ref (ad 3)]) (n := 1) (Nat.le_of_ble_eq_true rfl)
  rw [lg_entry_eq]
  generalize (lg_sl ([.ref (ad 3)]) ++ List.replicate (1 - (lg_sl ([.ref (ad 3)])).length) Slot.unset).toArray = ls at hl ⊢
  have hl : lv_has ls 1 [(0, .ref (ad 3))] := hl
  unfold f_E_wholeMinor at hf
  refine lv_aload_n hx hb d_E_wholeMinor_0 rfl (lv_at hl 0 rfl) ?_
  refine wx_get (v := .int (z0.1 6)) (C := RQ_E) (T := FQ_E) (N := 7) hx hb ht IQ_E hown hK hP 3 (by decide) (e_g1_3 cy ad _) rfl 2 (by decide) (ht _ kw_170) (fun _ h9 => h9) rfl d_E_wholeMinor_1 ?_
  refine lv_iconst (v := 2) hx hb d_E_wholeMinor_4 (by decide) ?_
  refine lv_irem hx hb d_E_wholeMinor_5 (by decide) ?_
  refine lv_if_ne (tgt := 21) hx hb d_E_wholeMinor_6 (by decide) (fun c1 => ?_) (fun c1 => ?_)
  ·
    have hf := op_neg hf c1
    refine lv_aload_n hx hb d_E_wholeMinor_21 rfl (lv_at hl 0 rfl) ?_
    refine wx_get (v := .ref (ad 20)) (C := RQ_E) (T := FQ_E) (N := 7) hx hb ht IQ_E hown hK hP 3 (by decide) (e_g1_3 cy ad _) rfl 3 (by decide) (ht _ kw_171) (fun _ h9 => h9) rfl d_E_wholeMinor_22 ?_
    refine lv_aload_n hx hb d_E_wholeMinor_25 rfl (lv_at hl 0 rfl) ?_
    refine wx_get (v := .int (z0.1 6)) (C := RQ_E) (T := FQ_E) (N := 7) hx hb ht IQ_E hown hK hP 3 (by decide) (e_g1_3 cy ad _) rfl 2 (by decide) (ht _ kw_170) (fun _ h9 => h9) rfl d_E_wholeMinor_26 ?_
    obtain ⟨h2, hf⟩ := op_chk hf
    refine wx_lald hx hb hK hP 20 (by decide) (by decide) 11 rfl h2 d_E_wholeMinor_29 ?_
    refine lv_lneg hx hb d_E_wholeMinor_30 ?_
    obtain ⟨hv9, rfl⟩ := op_inj hf
    exact wx_lret hx hb hr hlocks hAe hP hS hv9 d_E_wholeMinor_31
  ·
    have hf := op_pos hf c1
    refine lv_aload_n hx hb d_E_wholeMinor_9 rfl (lv_at hl 0 rfl) ?_
    refine wx_get (v := .ref (ad 20)) (C := RQ_E) (T := FQ_E) (N := 7) hx hb ht IQ_E hown hK hP 3 (by decide) (e_g1_3 cy ad _) rfl 3 (by decide) (ht _ kw_171) (fun _ h9 => h9) rfl d_E_wholeMinor_10 ?_
    refine lv_aload_n hx hb d_E_wholeMinor_13 rfl (lv_at hl 0 rfl) ?_
    refine wx_get (v := .int (z0.1 6)) (C := RQ_E) (T := FQ_E) (N := 7) hx hb ht IQ_E hown hK hP 3 (by decide) (e_g1_3 cy ad _) rfl 2 (by decide) (ht _ kw_170) (fun _ h9 => h9) rfl d_E_wholeMinor_14 ?_
    obtain ⟨h3, hf⟩ := op_chk hf
    refine wx_lald hx hb hK hP 20 (by decide) (by decide) 11 rfl h3 d_E_wholeMinor_17 ?_
    refine lv_goto (tgt := 31) hx hb d_E_wholeMinor_18 (by decide) ?_
    obtain ⟨hv9, rfl⟩ := op_inj hf
    exact wx_lret hx hb hr hlocks hAe hP hS hv9 d_E_wholeMinor_31

def l_R_sumUpLoads_1_13 : Nat → gS → Int32 → Int64 → Int32 → Option (Int32 × Int64 × gS)
  | 0, _, _, _, _ => none
  | n + 1, z, x2, x3, x5 =>
    if (4 : Int32) ≤ x5 then (some (x2, x3, z))
     else (if x5 < 0 ∨ 4 ≤ x5.toNatClampNeg then none else
     if x5 < 0 ∨ 4 ≤ x5.toNatClampNeg then none else
     if x2 < 0 ∨ 10 ≤ x2.toNatClampNeg then none else
     (some ((x3 + (((z.2.2.1 16 x5.toNatClampNeg) * (z.2.2.1 (x5.toNatClampNeg + 28) x2.toNatClampNeg)).toInt64)) : Int64)).bind (fun v5 =>
     l_R_sumUpLoads_1_13 n z x2 v5 (x5 + (1 : Int32))))
def l_R_sumUpLoads_1_2 : Nat → gS → Int32 → Option (gS)
  | 0, _, _ => none
  | n + 1, z, x2 =>
    if (10 : Int32) ≤ x2 then (some z)
     else (bd3 (l_R_sumUpLoads_1_13 200 z x2 (0 : Int64) (0 : Int32)) (fun v8 v9 w10 =>
     if v8 < 0 ∨ 10 ≤ v8.toNatClampNeg then none else
     (some (s_J w10 24 (vp_updL (w10.2.2.2 24) v8.toNatClampNeg v9))).bind (fun w13 =>
     l_R_sumUpLoads_1_2 n w13 (v8 + (1 : Int32)))))
def f_R_sumUpLoads_1 (z0 : gS) : Option gS :=
 bd1 (l_R_sumUpLoads_1_2 200 z0 (0 : Int32)) (fun w15 =>
 some w15)
set_option maxHeartbeats 4000000 in
set_option maxRecDepth 100000 in
theorem m_R_sumUpLoads_1 (l : Launch) (D : va_G) (cy : Nat → ClassId) (ad : Nat → Nat) (sz : Nat) (z0 : gS) (zz : gS) (hf : f_R_sumUpLoads_1 z0 = some zz) : Met l y_R_sumUpLoads (Cond.code y_R_sumUpLoads c_R_sumUpLoads 6 none :: gt_ws) ({ frames := 0, cells := 0, slots := 0, locals := 0 }) (sPc D cl_all (gTy cy) nwC 52 ad (g1 cy ad z0) sz [.ref (ad 4), .ref (ad 1)]) (sQv D cl_all 52 ad (g1 cy ad z0) sz (g1 cy ad zz)) 0 0 (va_A (wl 52 ad (g1 cy ad z0)) sz) := by
  refine Met.ofW (cc := c_R_sumUpLoads) (maxL := 6) (ret := none) (by decide) rfl ?_
  intro p e s m args below meth c s₁ B hml hv
  obtain ⟨rfl, hsz, hP, hK, hN, hD0⟩ := hv
  have hx := B.exec
  have hb := B.bytes
  have hr := B.returns
  have hts := atoms_spec (ws := (Cond.code y_R_sumUpLoads c_R_sumUpLoads 6 none :: gt_ws)) B.pre
  have ht : ∀ w ∈ gt_ws, w.before _ s = true := fun w h => hts w (List.mem_cons_of_mem _ h)
  have hown : s.vm.findClass RQ_R = some m.cls := findClass_of_methodNamed B.named
  have hlocks := B.notSynchronized
  subst hsz
  have hD1 := hD0.self (sz := s.heap.size)
  obtain ⟨A, hAe⟩ : ∃ A, A = va_A (wl 52 ad (g1 cy ad z0)) s.heap.size := ⟨_, rfl⟩
  rw [← hAe] at hD1
  have hD : ∀ g, va_D A (wl 52 ad g) := fun _ => wl_D hD1
  have hA : ∀ q : Nat, s.heap.size ≤ q → A q := fun q h => by rw [hAe]; exact Or.inr h
  have hS : va_S A s.heap s.heap [] := va_S.rf
  have hl := lv_entry ([.ref (ad 4), .ref (ad 1)]) (n := 6) (Nat.le_of_ble_eq_true rfl)
  rw [lg_entry_eq]
  generalize (lg_sl ([.ref (ad 4), .ref (ad 1)]) ++ List.replicate (6 - (lg_sl ([.ref (ad 4), .ref (ad 1)])).length) Slot.unset).toArray = ls at hl ⊢
  have hl : lv_has ls 6 [(0, .ref (ad 4)), (1, .ref (ad 1))] := hl
  have L_13 : ∀ (n : Nat) (z : gS) (x2 : Int32) (x3 : Int64) (x5 : Int32) (y2 : Int32) (y3 : Int64) (z9 : gS), l_R_sumUpLoads_1_13 n z x2 x3 x5 = some (y2, y3, z9) → ∀ (H : Heap) (locs : List Loc) (ls : Array Slot), va_P D cl_all (wl 52 ad (g1 cy ad z)) H → va_S A s.heap H locs → lv_has ls 6 [(0, .ref (ad 4)), (1, .ref (ad 1)), (2, .int x2), (3, .long x3), (5, .int x5)] →
      (∀ (H : Heap) (locs : List Loc) (ls : Array Slot), va_P D cl_all (wl 52 ad (g1 cy ad z9)) H → va_S A s.heap H locs → lv_has ls 6 [(0, .ref (ad 4)), (1, .ref (ad 1)), (2, .int y2), (3, .long y3)] → W p l e (headSpec (Cond.code y_R_sumUpLoads c_R_sumUpLoads 6 none :: gt_ws) ({ frames := 0, cells := 0, slots := 0, locals := 0 })).room s m ([.ref (ad 4), .ref (ad 1)]).toArray below meth c H locs 0 0 (MQ below (sQv D cl_all 52 ad (g1 cy ad z0) s.heap.size (g1 cy ad zz)) ([.ref (ad 4), .ref (ad 1)]).toArray s 0 0 (va_A (wl 52 ad (g1 cy ad z0)) s.heap.size)) (F0 m 46 ls [])) →
      W p l e (headSpec (Cond.code y_R_sumUpLoads c_R_sumUpLoads 6 none :: gt_ws) ({ frames := 0, cells := 0, slots := 0, locals := 0 })).room s m ([.ref (ad 4), .ref (ad 1)]).toArray below meth c H locs 0 0 (MQ below (sQv D cl_all 52 ad (g1 cy ad z0) s.heap.size (g1 cy ad zz)) ([.ref (ad 4), .ref (ad 1)]).toArray s 0 0 (va_A (wl 52 ad (g1 cy ad z0)) s.heap.size)) (F0 m 13 ls []) := by
    intro n
    induction n with
    | zero => intro z x2 x3 x5 y2 y3 z9 hf; rw [l_R_sumUpLoads_1_13] at hf; cases hf
    | succ n ih =>
      intro z x2 x3 x5 y2 y3 z9 hf H locs ls hP hS hl k_0
      rw [l_R_sumUpLoads_1_13] at hf
      refine lv_iload hx hb d_R_sumUpLoads_13 (lv_at hl 4 rfl) ?_
      refine lv_iconst (v := 4) hx hb d_R_sumUpLoads_15 (by decide) ?_
      refine lv_icmp_ge (tgt := 46) hx hb d_R_sumUpLoads_16 (by decide) (fun c1 => ?_) (fun c1 => ?_)
      ·
        have hf := op_pos hf c1
        cases hf
        exact k_0 _ _ _ hP hS (lv_sub hl [0, 1, 2, 3] rfl)
      ·
        have hf := op_neg hf c1
        refine lv_lload_n hx hb d_R_sumUpLoads_19 rfl (lv_at hl 3 rfl) ?_
        refine lv_aload_n hx hb d_R_sumUpLoads_20 rfl (lv_at hl 0 rfl) ?_
        refine wx_get (v := .ref (ad 16)) (C := RQ_R) (T := FQ_R) (N := 6) hx hb ht IQ_R hown hK hP 4 (by decide) (e_g1_4 cy ad _) rfl 0 (by decide) (ht _ kw_197) (fun _ h9 => h9) rfl d_R_sumUpLoads_21 ?_
        refine lv_iload hx hb d_R_sumUpLoads_24 (lv_at hl 4 rfl) ?_
        obtain ⟨h2, hf⟩ := op_chk hf
        refine wx_iald hx hb hK hP 16 (by decide) (by decide) 4 rfl h2 d_R_sumUpLoads_26 ?_
        refine lv_aload_n hx hb d_R_sumUpLoads_27 rfl (lv_at hl 1 rfl) ?_
        refine wx_get (v := .ref (ad 17)) (C := RQ_T) (T := FQ_T) (N := 10) hx hb ht IQ_T hown hK hP 1 (by decide) (e_g1_1 cy ad _) rfl 9 (by decide) (ht _ kw_98) (fun _ h9 => h9) rfl d_R_sumUpLoads_28 ?_
        refine lv_iload hx hb d_R_sumUpLoads_31 (lv_at hl 4 rfl) ?_
        obtain ⟨h3, hf⟩ := op_chk hf
        refine wx_aald (b := ad (x5.toNatClampNeg + 28)) hx hb hK hP 17 3 (by decide) (e_g1_17 cy ad _) rfl h3 (if_pos (r28_lt h3)) d_R_sumUpLoads_33 ?_
        refine lv_iload_n hx hb d_R_sumUpLoads_34 rfl (lv_at hl 2 rfl) ?_
        obtain ⟨h4, hf⟩ := op_chk hf
        refine wx_iald hx hb hK hP (x5.toNatClampNeg + 28) (r28 h3).1 (r28 h3).2.1 10 (r28 h3).2.2 h4 d_R_sumUpLoads_35 ?_
        refine lv_imul hx hb d_R_sumUpLoads_36 ?_
        refine lv_i2l hx hb d_R_sumUpLoads_37 rfl ?_
        refine lv_ladd hx hb d_R_sumUpLoads_38 ?_
        obtain ⟨v5, h6, hf⟩ := op_let hf
        refine sw_l h6 ?_
        refine lv_lstore_n (lv' := [(3, .long v5), (0, .ref (ad 4)), (1, .ref (ad 1)), (2, .int x2), (5, .int x5)]) hx hb d_R_sumUpLoads_39 rfl hl (by decide) rfl (fun ls hl => ?_)
        refine lv_iinc (v := x5 + (1 : Int32)) (lv' := [(5, .int (x5 + (1 : Int32))), (3, .long v5), (0, .ref (ad 4)), (1, .ref (ad 1)), (2, .int x2)]) hx hb d_R_sumUpLoads_40 hl (k := 4) rfl rfl (by decide) rfl (fun ls hl => ?_)
        refine lv_goto (tgt := 13) hx hb d_R_sumUpLoads_43 (by decide) ?_
        exact ih _ _ _ _ _ _ _ hf _ _ _ hP hS (lv_sub hl [2, 3, 4, 1, 0] rfl) k_0
  have L_2 : ∀ (n : Nat) (z : gS) (x2 : Int32) (z9 : gS), l_R_sumUpLoads_1_2 n z x2 = some z9 → ∀ (H : Heap) (locs : List Loc) (ls : Array Slot), va_P D cl_all (wl 52 ad (g1 cy ad z)) H → va_S A s.heap H locs → lv_has ls 6 [(0, .ref (ad 4)), (1, .ref (ad 1)), (2, .int x2)] →
      (∀ (H : Heap) (locs : List Loc) (ls : Array Slot), va_P D cl_all (wl 52 ad (g1 cy ad z9)) H → va_S A s.heap H locs → lv_has ls 6 [] → W p l e (headSpec (Cond.code y_R_sumUpLoads c_R_sumUpLoads 6 none :: gt_ws) ({ frames := 0, cells := 0, slots := 0, locals := 0 })).room s m ([.ref (ad 4), .ref (ad 1)]).toArray below meth c H locs 0 0 (MQ below (sQv D cl_all 52 ad (g1 cy ad z0) s.heap.size (g1 cy ad zz)) ([.ref (ad 4), .ref (ad 1)]).toArray s 0 0 (va_A (wl 52 ad (g1 cy ad z0)) s.heap.size)) (F0 m 59 ls [])) →
      W p l e (headSpec (Cond.code y_R_sumUpLoads c_R_sumUpLoads 6 none :: gt_ws) ({ frames := 0, cells := 0, slots := 0, locals := 0 })).room s m ([.ref (ad 4), .ref (ad 1)]).toArray below meth c H locs 0 0 (MQ below (sQv D cl_all 52 ad (g1 cy ad z0) s.heap.size (g1 cy ad zz)) ([.ref (ad 4), .ref (ad 1)]).toArray s 0 0 (va_A (wl 52 ad (g1 cy ad z0)) s.heap.size)) (F0 m 2 ls []) := by
    intro n
    induction n with
    | zero => intro z x2 z9 hf; rw [l_R_sumUpLoads_1_2] at hf; cases hf
    | succ n ih =>
      intro z x2 z9 hf H locs ls hP hS hl k_0
      rw [l_R_sumUpLoads_1_2] at hf
      refine lv_iload_n hx hb d_R_sumUpLoads_2 rfl (lv_at hl 2 rfl) ?_
      refine lv_bipush (v := 10) hx hb d_R_sumUpLoads_3 (by decide) ?_
      refine lv_icmp_ge (tgt := 59) hx hb d_R_sumUpLoads_5 (by decide) (fun c7 => ?_) (fun c7 => ?_)
      ·
        have hf := op_pos hf c7
        cases hf
        exact k_0 _ _ _ hP hS (lv_sub hl [] rfl)
      ·
        have hf := op_neg hf c7
        refine lv_lconst (v := 0) hx hb d_R_sumUpLoads_8 (by decide) ?_
        refine lv_lstore_n (lv' := [(3, .long (0 : Int64)), (0, .ref (ad 4)), (1, .ref (ad 1)), (2, .int x2)]) hx hb d_R_sumUpLoads_9 rfl hl (by decide) rfl (fun ls hl => ?_)
        refine lv_iconst (v := 0) hx hb d_R_sumUpLoads_10 (by decide) ?_
        refine lv_istore (lv' := [(5, .int (0 : Int32)), (3, .long (0 : Int64)), (0, .ref (ad 4)), (1, .ref (ad 1)), (2, .int x2)]) hx hb d_R_sumUpLoads_11 hl (by decide) rfl (fun ls hl => ?_)
        obtain ⟨v8, v9, w10, hc11, hf⟩ := op_b3 hf
        refine L_13 _ _ _ _ _ _ _ _ hc11 _ _ _ hP hS (lv_sub hl [2, 3, 4, 1, 0] rfl) (fun H locs ls hP hS hl => ?_)
        refine lv_aload_n hx hb d_R_sumUpLoads_46 rfl (lv_at hl 0 rfl) ?_
        refine wx_get (v := .ref (ad 24)) (C := RQ_R) (T := FQ_R) (N := 6) hx hb ht IQ_R hown hK hP 4 (by decide) (e_g1_4 cy ad _) rfl 1 (by decide) (ht _ kw_198) (fun _ h9 => h9) rfl d_R_sumUpLoads_47 ?_
        refine lv_iload_n hx hb d_R_sumUpLoads_50 rfl (lv_at hl 2 rfl) ?_
        refine lv_lload_n hx hb d_R_sumUpLoads_51 rfl (lv_at hl 3 rfl) ?_
        obtain ⟨h12, hf⟩ := op_chk hf
        refine wx_last hx hb hK hP (hD _) hS 24 (by decide) (by decide) 10 rfl h12 d_R_sumUpLoads_52 (fun H locs hP hS => ?_)
        obtain ⟨w13, h14, hf⟩ := op_let hf
        rw [h14] at hP
        refine lv_iinc (v := v8 + (1 : Int32)) (lv' := [(2, .int (v8 + (1 : Int32))), (0, .ref (ad 4)), (1, .ref (ad 1)), (3, .long v9)]) hx hb d_R_sumUpLoads_53 hl (k := 2) rfl rfl (by decide) rfl (fun ls hl => ?_)
        refine lv_goto (tgt := 2) hx hb d_R_sumUpLoads_56 (by decide) ?_
        exact ih _ _ _ hf _ _ _ hP hS (lv_sub hl [1, 2, 0] rfl) k_0
  unfold f_R_sumUpLoads_1 at hf
  refine lv_iconst (v := 0) hx hb d_R_sumUpLoads_0 (by decide) ?_
  refine lv_istore_n (lv' := [(2, .int (0 : Int32)), (0, .ref (ad 4)), (1, .ref (ad 1))]) hx hb d_R_sumUpLoads_1 rfl hl (by decide) rfl (fun ls hl => ?_)
  obtain ⟨w15, hc16, hf⟩ := op_b1 hf
  refine L_2 _ _ _ _ hc16 _ _ _ hP hS (lv_sub hl [1, 2, 0] rfl) (fun H locs ls hP hS hl => ?_)
  obtain rfl := Option.some.inj hf
  exact wx_vret hx hb hr hlocks hAe hP hS d_R_sumUpLoads_59
