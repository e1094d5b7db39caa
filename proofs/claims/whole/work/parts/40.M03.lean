def l_M_powered_7 : Nat → gS → Int64 → Int64 → Int64 → Int64 → Int32 → Option (Int64 × gS)
  | 0, _, _, _, _, _, _ => none
  | n + 1, z, x1, x3, x5, x7, x9 =>
    if x9 < 0 then (some (x7, z))
     else (if x5 = 0 then none else
     (some (((x7 * x7) - (x7 * x7) / x5 * x5) : Int64)).bind (fun v3 =>
     if (lg_cmp ((x3 >>> (x9.toInt64 &&& 63)) &&& (1 : Int64)) (0 : Int64)) = 0 then (l_M_powered_7 n z x1 x3 x5 v3 (x9 + (-1 : Int32)))
     else (if x5 = 0 then none else
     (some (((v3 * x1) - (v3 * x1) / x5 * x5) : Int64)).bind (fun v7 =>
     l_M_powered_7 n z x1 x3 x5 v7 (x9 + (-1 : Int32))))))
def f_M_powered (z0 : gS) (p1 : Int64) (p3 : Int64) (p5 : Int64) : Option (Int64 × gS) :=
 bd2 (l_M_powered_7 200 z0 p1 p3 p5 (1 : Int64) (62 : Int32)) (fun v9 w10 =>
 some (v9, w10))
set_option maxHeartbeats 4000000 in
set_option maxRecDepth 100000 in
theorem m_M_powered (l : Launch) (D : va_G) (cy : Nat → ClassId) (ad : Nat → Nat) (sz : Nat) (z0 : gS) (p1 : Int64) (p3 : Int64) (p5 : Int64) (r : Int64) (zz : gS) (hf : f_M_powered z0 p1 p3 p5 = some (r, zz)) : Met l y_M_powered (Cond.code y_M_powered c_M_powered 10 (some .long) :: gt_ws) ({ frames := 0, cells := 0, slots := 0, locals := 0 }) (sPc D cl_all (gTy cy) nwM 16 ad (g2 cy ad z0) sz [.ref (ad 0), .long p1, .long p3, .long p5]) (sQl D cl_all 16 ad (g2 cy ad z0) sz r (g2 cy ad zz)) 0 0 (va_A (wl 16 ad (g2 cy ad z0)) sz) := by
  refine Met.ofW (cc := c_M_powered) (maxL := 10) (ret := (some .long)) (by decide) rfl ?_
  intro p e s m args below meth c s₁ B hml hv
  obtain ⟨rfl, hsz, hP, hK, hN, hD0⟩ := hv
  have hx := B.exec
  have hb := B.bytes
  have hr := B.returns
  have hts := atoms_spec (ws := (Cond.code y_M_powered c_M_powered 10 (some .long) :: gt_ws)) B.pre
  have ht : ∀ w ∈ gt_ws, w.before _ s = true := fun w h => hts w (List.mem_cons_of_mem _ h)
  have hown : s.vm.findClass RQ_M = some m.cls := findClass_of_methodNamed B.named
  have hlocks := B.notSynchronized
  subst hsz
  have hD1 := hD0.self (sz := s.heap.size)
  obtain ⟨A, hAe⟩ : ∃ A, A = va_A (wl 16 ad (g2 cy ad z0)) s.heap.size := ⟨_, rfl⟩
  rw [← hAe] at hD1
  have hD : ∀ g, va_D A (wl 16 ad g) := fun _ => wl_D hD1
  have hA : ∀ q : Nat, s.heap.size ≤ q → A q := fun q h => by rw [hAe]; exact Or.inr h
  have hS : va_S A s.heap s.heap [] := va_S.rf
  have hl := lv_entry ([.ref (ad 0), .long p1, .long p3, .long p5]) (n := 10) (Nat.le_of_ble_eq_true rfl)
  rw [lg_entry_eq]
  generalize (lg_sl ([.ref (ad 0), .long p1, .long p3, .long p5]) ++ List.replicate (10 - (lg_sl ([.ref (ad 0), .long p1, .long p3, .long p5])).length) Slot.unset).toArray = ls at hl ⊢
  have hl : lv_has ls 10 [(0, .ref (ad 0)), (1, .long p1), (3, .long p3), (5, .long p5)] := hl
  have L_7 : ∀ (n : Nat) (z : gS) (x1 : Int64) (x3 : Int64) (x5 : Int64) (x7 : Int64) (x9 : Int32) (y7 : Int64) (z9 : gS), l_M_powered_7 n z x1 x3 x5 x7 x9 = some (y7, z9) → ∀ (H : Heap) (locs : List Loc) (ls : Array Slot), va_P D cl_all (wl 16 ad (g2 cy ad z)) H → va_S A s.heap H locs → lv_has ls 10 [(1, .long x1), (3, .long x3), (5, .long x5), (7, .long x7), (9, .int x9)] →
      (∀ (H : Heap) (locs : List Loc) (ls : Array Slot), va_P D cl_all (wl 16 ad (g2 cy ad z9)) H → va_S A s.heap H locs → lv_has ls 10 [(7, .long y7)] → W p l e (headSpec (Cond.code y_M_powered c_M_powered 10 (some .long) :: gt_ws) ({ frames := 0, cells := 0, slots := 0, locals := 0 })).room s m ([.ref (ad 0), .long p1, .long p3, .long p5]).toArray below meth c H locs 0 0 (MQ below (sQl D cl_all 16 ad (g2 cy ad z0) s.heap.size r (g2 cy ad zz)) ([.ref (ad 0), .long p1, .long p3, .long p5]).toArray s 0 0 (va_A (wl 16 ad (g2 cy ad z0)) s.heap.size)) (F0 m 48 ls [])) →
      W p l e (headSpec (Cond.code y_M_powered c_M_powered 10 (some .long) :: gt_ws) ({ frames := 0, cells := 0, slots := 0, locals := 0 })).room s m ([.ref (ad 0), .long p1, .long p3, .long p5]).toArray below meth c H locs 0 0 (MQ below (sQl D cl_all 16 ad (g2 cy ad z0) s.heap.size r (g2 cy ad zz)) ([.ref (ad 0), .long p1, .long p3, .long p5]).toArray s 0 0 (va_A (wl 16 ad (g2 cy ad z0)) s.heap.size)) (F0 m 7 ls []) := by
    intro n
    induction n with
    | zero => intro z x1 x3 x5 x7 x9 y7 z9 hf; rw [l_M_powered_7] at hf; cases hf
    | succ n ih =>
      intro z x1 x3 x5 x7 x9 y7 z9 hf H locs ls hP hS hl k_0
      rw [l_M_powered_7] at hf
      refine lv_iload hx hb d_M_powered_7 (lv_at hl 4 rfl) ?_
      refine lv_if_lt (tgt := 48) hx hb d_M_powered_9 (by decide) (fun c1 => ?_) (fun c1 => ?_)
      ·
        have hf := op_pos hf c1
        cases hf
        exact k_0 _ _ _ hP hS (lv_sub hl [3] rfl)
      ·
        have hf := op_neg hf c1
        refine lv_lload hx hb d_M_powered_12 (lv_at hl 3 rfl) ?_
        refine lv_lload hx hb d_M_powered_14 (lv_at hl 3 rfl) ?_
        refine lv_lmul hx hb d_M_powered_16 ?_
        refine lv_lload hx hb d_M_powered_17 (lv_at hl 2 rfl) ?_
        obtain ⟨h2, hf⟩ := op_chk hf
        refine lv_lrem hx hb d_M_powered_19 h2 ?_
        obtain ⟨v3, h4, hf⟩ := op_let hf
        refine sw_l h4 ?_
        refine lv_lstore (lv' := [(7, .long v3), (1, .long x1), (3, .long x3), (5, .long x5), (9, .int x9)]) hx hb d_M_powered_20 hl (by decide) rfl (fun ls hl => ?_)
        refine lv_lload_n hx hb d_M_powered_22 rfl (lv_at hl 2 rfl) ?_
        refine lv_iload hx hb d_M_powered_23 (lv_at hl 4 rfl) ?_
        refine lv_lshr hx hb d_M_powered_25 rfl ?_
        refine lv_lconst (v := 1) hx hb d_M_powered_26 (by decide) ?_
        refine lv_land hx hb d_M_powered_27 ?_
        refine lv_lconst (v := 0) hx hb d_M_powered_28 (by decide) ?_
        refine W.lcmp hx hb d_M_powered_29 ?_
        refine lv_if_eq (tgt := 42) hx hb d_M_powered_30 (by decide) (fun c5 => ?_) (fun c5 => ?_)
        ·
          have hf := op_pos hf c5
          refine lv_iinc (v := x9 + (-1 : Int32)) (lv' := [(9, .int (x9 + (-1 : Int32))), (7, .long v3), (1, .long x1), (3, .long x3), (5, .long x5)]) hx hb d_M_powered_42 hl (k := 4) rfl rfl (by decide) rfl (fun ls hl => ?_)
          refine lv_goto (tgt := 7) hx hb d_M_powered_45 (by decide) ?_
          exact ih _ _ _ _ _ _ _ _ hf _ _ _ hP hS (lv_sub hl [2, 3, 4, 1, 0] rfl) k_0
        ·
          have hf := op_neg hf c5
          refine lv_lload hx hb d_M_powered_33 (lv_at hl 0 rfl) ?_
          refine lv_lload_n hx hb d_M_powered_35 rfl (lv_at hl 1 rfl) ?_
          refine lv_lmul hx hb d_M_powered_36 ?_
          refine lv_lload hx hb d_M_powered_37 (lv_at hl 3 rfl) ?_
          obtain ⟨h6, hf⟩ := op_chk hf
          refine lv_lrem hx hb d_M_powered_39 h6 ?_
          obtain ⟨v7, h8, hf⟩ := op_let hf
          refine sw_l h8 ?_
          refine lv_lstore (lv' := [(7, .long v7), (1, .long x1), (3, .long x3), (5, .long x5), (9, .int x9)]) hx hb d_M_powered_40 hl (by decide) rfl (fun ls hl => ?_)
          refine lv_iinc (v := x9 + (-1 : Int32)) (lv' := [(9, .int (x9 + (-1 : Int32))), (7, .long v7), (1, .long x1), (3, .long x3), (5, .long x5)]) hx hb d_M_powered_42 hl (k := 4) rfl rfl (by decide) rfl (fun ls hl => ?_)
          refine lv_goto (tgt := 7) hx hb d_M_powered_45 (by decide) ?_
          exact ih _ _ _ _ _ _ _ _ hf _ _ _ hP hS (lv_sub hl [2, 3, 4, 1, 0] rfl) k_0
  unfold f_M_powered at hf
  refine lv_lconst (v := 1) hx hb d_M_powered_0 (by decide) ?_
  refine lv_lstore (lv' := [(7, .long (1 : Int64)), (0, .ref (ad 0)), (1, .long p1), (3, .long p3), (5, .long p5)]) hx hb d_M_powered_1 hl (by decide) rfl (fun ls hl => ?_)
  refine lv_bipush (v := 62) hx hb d_M_powered_3 (by decide) ?_
  refine lv_istore (lv' := [(9, .int (62 : Int32)), (7, .long (1 : Int64)), (0, .ref (ad 0)), (1, .long p1), (3, .long p3), (5, .long p5)]) hx hb d_M_powered_5 hl (by decide) rfl (fun ls hl => ?_)
  obtain ⟨v9, w10, hc11, hf⟩ := op_b2 hf
  refine L_7 _ _ _ _ _ _ _ _ _ hc11 _ _ _ hP hS (lv_sub hl [3, 4, 5, 1, 0] rfl) (fun H locs ls hP hS hl => ?_)
  refine lv_lload hx hb d_M_powered_48 (lv_at hl 0 rfl) ?_
  obtain ⟨hv9, rfl⟩ := op_inj hf
  exact wx_lret hx hb hr hlocks hAe hP hS hv9 d_M_powered_50

def l_M_clear_56 : Nat → gS → Int32 → Int32 → Int64 → Int64 → Int32 → Int64 → Int32 → Option (Int32 × Int32 × Int64 × Int64 × Int32 × gS)
  | 0, _, _, _, _, _, _, _, _ => none
  | n + 1, z, x1, x2, x3, x5, x7, x8, x10 =>
    if x2 ≤ x10 then (some (x1, x2, x3, x5, x7, z))
     else (if ((x7 * (10 : Int32)) + x10) < 0 ∨ 100 ≤ ((x7 * (10 : Int32)) + x10).toNatClampNeg then none else
     if ((x1 * (10 : Int32)) + x10) < 0 ∨ 100 ≤ ((x1 * (10 : Int32)) + x10).toNatClampNeg then none else
     if x3 = 0 then none else
     if ((x7 * (10 : Int32)) + x10) < 0 ∨ 100 ≤ ((x7 * (10 : Int32)) + x10).toNatClampNeg then none else
     (some (s_J z 15 (vp_updL (z.2.2.2 15) ((x7 * (10 : Int32)) + x10).toNatClampNeg (((z.2.2.2 15 ((x7 * (10 : Int32)) + x10).toNatClampNeg) + ((x3 - x8) * (z.2.2.2 15 ((x1 * (10 : Int32)) + x10).toNatClampNeg))) - ((z.2.2.2 15 ((x7 * (10 : Int32)) + x10).toNatClampNeg) + ((x3 - x8) * (z.2.2.2 15 ((x1 * (10 : Int32)) + x10).toNatClampNeg))) / x3 * x3)))).bind (fun w6 =>
     l_M_clear_56 n w6 x1 x2 x3 x5 x7 x8 (x10 + (1 : Int32))))
def l_M_clear_28 : Nat → gS → Int32 → Int32 → Int64 → Int64 → Int32 → Option (gS)
  | 0, _, _, _, _, _, _ => none
  | n + 1, z, x1, x2, x3, x5, x7 =>
    if x2 ≤ x7 then (some z)
     else (if ((x7 * (10 : Int32)) + x1) < 0 ∨ 100 ≤ ((x7 * (10 : Int32)) + x1).toNatClampNeg then none else
     if x3 = 0 then none else
     (some ((((z.2.2.2 15 ((x7 * (10 : Int32)) + x1).toNatClampNeg) * x5) - ((z.2.2.2 15 ((x7 * (10 : Int32)) + x1).toNatClampNeg) * x5) / x3 * x3) : Int64)).bind (fun v11 =>
     bd6 (l_M_clear_56 200 z x1 x2 x3 x5 x7 v11 x1) (fun v13 v14 v15 v16 v17 w18 =>
     l_M_clear_28 n w18 v13 v14 v15 v16 (v17 + (1 : Int32)))))
def f_M_clear (z0 : gS) (p1 : Int32) (p2 : Int32) (p3 : Int64) : Option gS :=
 if ((p1 * (10 : Int32)) + p1) < 0 ∨ 100 ≤ ((p1 * (10 : Int32)) + p1).toNatClampNeg then none else
 bd2 (f_M_powered z0 (z0.2.2.2 15 ((p1 * (10 : Int32)) + p1).toNatClampNeg) (p3 - (2 : Int64)) p3) (fun r23 w22 =>
 (some ((p1 + (1 : Int32)) : Int32)).bind (fun v24 =>
 bd1 (l_M_clear_28 200 w22 p1 p2 p3 r23 v24) (fun w26 =>
 some w26)))
set_option maxHeartbeats 4000000 in
set_option maxRecDepth 100000 in
theorem m_M_clear (l : Launch) (D : va_G) (cy : Nat → ClassId) (ad : Nat → Nat) (sz : Nat) (z0 : gS) (p1 : Int32) (p2 : Int32) (p3 : Int64) (zz : gS) (hf : f_M_clear z0 p1 p2 p3 = some zz) : Met l y_M_clear (Cond.code y_M_clear c_M_clear 11 none :: gt_ws) ({ frames := 1, cells := 0, slots := 0, locals := 45 }) (sPc D cl_all (gTy cy) nwM 16 ad (g2 cy ad z0) sz [.ref (ad 0), .int p1, .int p2, .long p3]) (sQv D cl_all 16 ad (g2 cy ad z0) sz (g2 cy ad zz)) 0 0 (va_A (wl 16 ad (g2 cy ad z0)) sz) := by
  refine Met.ofW (cc := c_M_clear) (maxL := 11) (ret := none) (by decide) rfl ?_
  intro p e s m args below meth c s₁ B hml hv
  obtain ⟨rfl, hsz, hP, hK, hN, hD0⟩ := hv
  have hx := B.exec
  have hb := B.bytes
  have hr := B.returns
  have hts := atoms_spec (ws := (Cond.code y_M_clear c_M_clear 11 none :: gt_ws)) B.pre
  have ht : ∀ w ∈ gt_ws, w.before _ s = true := fun w h => hts w (List.mem_cons_of_mem _ h)
  have hown : s.vm.findClass RQ_M = some m.cls := findClass_of_methodNamed B.named
  have hlocks := B.notSynchronized
  subst hsz
  have hD1 := hD0.self (sz := s.heap.size)
  obtain ⟨A, hAe⟩ : ∃ A, A = va_A (wl 16 ad (g2 cy ad z0)) s.heap.size := ⟨_, rfl⟩
  rw [← hAe] at hD1
  have hD : ∀ g, va_D A (wl 16 ad g) := fun _ => wl_D hD1
  have hA : ∀ q : Nat, s.heap.size ≤ q → A q := fun q h => by rw [hAe]; exact Or.inr h
  have hS : va_S A s.heap s.heap [] := va_S.rf
  have hl := lv_entry ([.ref (ad 0), .int p1, .int p2, .long p3]) (n := 11) (Nat.le_of_ble_eq_true rfl)
  rw [lg_entry_eq]
  generalize (lg_sl ([.ref (ad 0), .int p1, .int p2, .long p3]) ++ List.replicate (11 - (lg_sl ([.ref (ad 0), .int p1, .int p2, .long p3])).length) Slot.unset).toArray = ls at hl ⊢
  have hl : lv_has ls 11 [(0, .ref (ad 0)), (1, .int p1), (2, .int p2), (3, .long p3)] := hl
  have L_56 : ∀ (n : Nat) (z : gS) (x1 : Int32) (x2 : Int32) (x3 : Int64) (x5 : Int64) (x7 : Int32) (x8 : Int64) (x10 : Int32) (y1 : Int32) (y2 : Int32) (y3 : Int64) (y5 : Int64) (y7 : Int32) (z9 : gS), l_M_clear_56 n z x1 x2 x3 x5 x7 x8 x10 = some (y1, y2, y3, y5, y7, z9) → ∀ (H : Heap) (locs : List Loc) (ls : Array Slot), va_P D cl_all (wl 16 ad (g2 cy ad z)) H → va_S A s.heap H locs → lv_has ls 11 [(0, .ref (ad 0)), (1, .int x1), (2, .int x2), (3, .long x3), (5, .long x5), (7, .int x7), (8, .long x8), (10, .int x10)] →
      (∀ (H : Heap) (locs : List Loc) (ls : Array Slot), va_P D cl_all (wl 16 ad (g2 cy ad z9)) H → va_S A s.heap H locs → lv_has ls 11 [(0, .ref (ad 0)), (1, .int y1), (2, .int y2), (3, .long y3), (5, .long y5), (7, .int y7)] → W p l e (headSpec (Cond.code y_M_clear c_M_clear 11 none :: gt_ws) ({ frames := 1, cells := 0, slots := 0, locals := 45 })).room s m ([.ref (ad 0), .int p1, .int p2, .long p3]).toArray below meth c H locs 0 0 (MQ below (sQv D cl_all 16 ad (g2 cy ad z0) s.heap.size (g2 cy ad zz)) ([.ref (ad 0), .int p1, .int p2, .long p3]).toArray s 0 0 (va_A (wl 16 ad (g2 cy ad z0)) s.heap.size)) (F0 m 114 ls [])) →
      W p l e (headSpec (Cond.code y_M_clear c_M_clear 11 none :: gt_ws) ({ frames := 1, cells := 0, slots := 0, locals := 45 })).room s m ([.ref (ad 0), .int p1, .int p2, .long p3]).toArray below meth c H locs 0 0 (MQ below (sQv D cl_all 16 ad (g2 cy ad z0) s.heap.size (g2 cy ad zz)) ([.ref (ad 0), .int p1, .int p2, .long p3]).toArray s 0 0 (va_A (wl 16 ad (g2 cy ad z0)) s.heap.size)) (F0 m 56 ls []) := by
    intro n
    induction n with
    | zero => intro z x1 x2 x3 x5 x7 x8 x10 y1 y2 y3 y5 y7 z9 hf; rw [l_M_clear_56] at hf; cases hf
    | succ n ih =>
      intro z x1 x2 x3 x5 x7 x8 x10 y1 y2 y3 y5 y7 z9 hf H locs ls hP hS hl k_0
      rw [l_M_clear_56] at hf
      refine lv_iload hx hb d_M_clear_56 (lv_at hl 7 rfl) ?_
      refine lv_iload_n hx hb d_M_clear_58 rfl (lv_at hl 2 rfl) ?_
      refine lv_icmp_ge (tgt := 114) hx hb d_M_clear_59 (by decide) (fun c1 => ?_) (fun c1 => ?_)
      ·
        have hf := op_pos hf c1
        cases hf
        exact k_0 _ _ _ hP hS (lv_sub hl [0, 1, 2, 3, 4, 5] rfl)
      ·
        have hf := op_neg hf c1
        refine lv_aload_n hx hb d_M_clear_62 rfl (lv_at hl 0 rfl) ?_
        refine wx_get (v := .ref (ad 15)) (C := RQ_M) (T := FQ_M) (N := 21) hx hb ht IQ_M hown hK hP 0 (by decide) (e_g2_0 cy ad _) rfl 18 (by decide) (ht _ kw_546) (fun _ h9 => h9) rfl d_M_clear_63 ?_
        refine lv_iload hx hb d_M_clear_66 (lv_at hl 5 rfl) ?_
        refine lv_bipush (v := 10) hx hb d_M_clear_68 (by decide) ?_
        refine lv_imul hx hb d_M_clear_70 ?_
        refine lv_iload hx hb d_M_clear_71 (lv_at hl 7 rfl) ?_
        refine lv_iadd hx hb d_M_clear_73 ?_
        refine lv_aload_n hx hb d_M_clear_74 rfl (lv_at hl 0 rfl) ?_
        refine wx_get (v := .ref (ad 15)) (C := RQ_M) (T := FQ_M) (N := 21) hx hb ht IQ_M hown hK hP 0 (by decide) (e_g2_0 cy ad _) rfl 18 (by decide) (ht _ kw_546) (fun _ h9 => h9) rfl d_M_clear_75 ?_
        refine lv_iload hx hb d_M_clear_78 (lv_at hl 5 rfl) ?_
        refine lv_bipush (v := 10) hx hb d_M_clear_80 (by decide) ?_
        refine lv_imul hx hb d_M_clear_82 ?_
        refine lv_iload hx hb d_M_clear_83 (lv_at hl 7 rfl) ?_
        refine lv_iadd hx hb d_M_clear_85 ?_
        obtain ⟨h2, hf⟩ := op_chk hf
        refine wx_lald hx hb hK hP 15 (by decide) (by decide) 100 rfl h2 d_M_clear_86 ?_
        refine lv_lload_n hx hb d_M_clear_87 rfl (lv_at hl 3 rfl) ?_
        refine lv_lload hx hb d_M_clear_88 (lv_at hl 6 rfl) ?_
        refine lv_lsub hx hb d_M_clear_90 ?_
        refine lv_aload_n hx hb d_M_clear_91 rfl (lv_at hl 0 rfl) ?_
        refine wx_get (v := .ref (ad 15)) (C := RQ_M) (T := FQ_M) (N := 21) hx hb ht IQ_M hown hK hP 0 (by decide) (e_g2_0 cy ad _) rfl 18 (by decide) (ht _ kw_546) (fun _ h9 => h9) rfl d_M_clear_92 ?_
        refine lv_iload_n hx hb d_M_clear_95 rfl (lv_at hl 1 rfl) ?_
        refine lv_bipush (v := 10) hx hb d_M_clear_96 (by decide) ?_
        refine lv_imul hx hb d_M_clear_98 ?_
        refine lv_iload hx hb d_M_clear_99 (lv_at hl 7 rfl) ?_
        refine lv_iadd hx hb d_M_clear_101 ?_
        obtain ⟨h3, hf⟩ := op_chk hf
        refine wx_lald hx hb hK hP 15 (by decide) (by decide) 100 rfl h3 d_M_clear_102 ?_
        refine lv_lmul hx hb d_M_clear_103 ?_
        refine lv_ladd hx hb d_M_clear_104 ?_
        refine lv_lload_n hx hb d_M_clear_105 rfl (lv_at hl 3 rfl) ?_
        obtain ⟨h4, hf⟩ := op_chk hf
        refine lv_lrem hx hb d_M_clear_106 h4 ?_
        obtain ⟨h5, hf⟩ := op_chk hf
        refine wx_last hx hb hK hP (hD _) hS 15 (by decide) (by decide) 100 rfl h5 d_M_clear_107 (fun H locs hP hS => ?_)
        obtain ⟨w6, h7, hf⟩ := op_let hf
        rw [h7] at hP
        refine lv_iinc (v := x10 + (1 : Int32)) (lv' := [(10, .int (x10 + (1 : Int32))), (0, .ref (ad 0)), (1, .int x1), (2, .int x2), (3, .long x3), (5, .long x5), (7, .int x7), (8, .long x8)]) hx hb d_M_clear_108 hl (k := 7) rfl rfl (by decide) rfl (fun ls hl => ?_)
        refine lv_goto (tgt := 56) hx hb d_M_clear_111 (by decide) ?_
        exact ih _ _ _ _ _ _ _ _ _ _ _ _ _ _ hf _ _ _ hP hS (lv_sub hl [1, 2, 3, 4, 5, 6, 7, 0] rfl) k_0
  have L_28 : ∀ (n : Nat) (z : gS) (x1 : Int32) (x2 : Int32) (x3 : Int64) (x5 : Int64) (x7 : Int32) (z9 : gS), l_M_clear_28 n z x1 x2 x3 x5 x7 = some z9 → ∀ (H : Heap) (locs : List Loc) (ls : Array Slot), va_P D cl_all (wl 16 ad (g2 cy ad z)) H → va_S A s.heap H locs → lv_has ls 11 [(0, .ref (ad 0)), (1, .int x1), (2, .int x2), (3, .long x3), (5, .long x5), (7, .int x7)] →
      (∀ (H : Heap) (locs : List Loc) (ls : Array Slot), va_P D cl_all (wl 16 ad (g2 cy ad z9)) H → va_S A s.heap H locs → lv_has ls 11 [] → W p l e (headSpec (Cond.code y_M_clear c_M_clear 11 none :: gt_ws) ({ frames := 1, cells := 0, slots := 0, locals := 45 })).room s m ([.ref (ad 0), .int p1, .int p2, .long p3]).toArray below meth c H locs 0 0 (MQ below (sQv D cl_all 16 ad (g2 cy ad z0) s.heap.size (g2 cy ad zz)) ([.ref (ad 0), .int p1, .int p2, .long p3]).toArray s 0 0 (va_A (wl 16 ad (g2 cy ad z0)) s.heap.size)) (F0 m 120 ls [])) →
      W p l e (headSpec (Cond.code y_M_clear c_M_clear 11 none :: gt_ws) ({ frames := 1, cells := 0, slots := 0, locals := 45 })).room s m ([.ref (ad 0), .int p1, .int p2, .long p3]).toArray below meth c H locs 0 0 (MQ below (sQv D cl_all 16 ad (g2 cy ad z0) s.heap.size (g2 cy ad zz)) ([.ref (ad 0), .int p1, .int p2, .long p3]).toArray s 0 0 (va_A (wl 16 ad (g2 cy ad z0)) s.heap.size)) (F0 m 28 ls []) := by
    intro n
    induction n with
    | zero => intro z x1 x2 x3 x5 x7 z9 hf; rw [l_M_clear_28] at hf; cases hf
    | succ n ih =>
      intro z x1 x2 x3 x5 x7 z9 hf H locs ls hP hS hl k_0
      rw [l_M_clear_28] at hf
      refine lv_iload hx hb d_M_clear_28 (lv_at hl 5 rfl) ?_
      refine lv_iload_n hx hb d_M_clear_30 rfl (lv_at hl 2 rfl) ?_
      refine lv_icmp_ge (tgt := 120) hx hb d_M_clear_31 (by decide) (fun c8 => ?_) (fun c8 => ?_)
      ·
        have hf := op_pos hf c8
        cases hf
        exact k_0 _ _ _ hP hS (lv_sub hl [] rfl)
      ·
        have hf := op_neg hf c8
        refine lv_aload_n hx hb d_M_clear_34 rfl (lv_at hl 0 rfl) ?_
        refine wx_get (v := .ref (ad 15)) (C := RQ_M) (T := FQ_M) (N := 21) hx hb ht IQ_M hown hK hP 0 (by decide) (e_g2_0 cy ad _) rfl 18 (by decide) (ht _ kw_546) (fun _ h9 => h9) rfl d_M_clear_35 ?_
        refine lv_iload hx hb d_M_clear_38 (lv_at hl 5 rfl) ?_
        refine lv_bipush (v := 10) hx hb d_M_clear_40 (by decide) ?_
        refine lv_imul hx hb d_M_clear_42 ?_
        refine lv_iload_n hx hb d_M_clear_43 rfl (lv_at hl 1 rfl) ?_
        refine lv_iadd hx hb d_M_clear_44 ?_
        obtain ⟨h9, hf⟩ := op_chk hf
        refine wx_lald hx hb hK hP 15 (by decide) (by decide) 100 rfl h9 d_M_clear_45 ?_
        refine lv_lload hx hb d_M_clear_46 (lv_at hl 4 rfl) ?_
        refine lv_lmul hx hb d_M_clear_48 ?_
        refine lv_lload_n hx hb d_M_clear_49 rfl (lv_at hl 3 rfl) ?_
        obtain ⟨h10, hf⟩ := op_chk hf
        refine lv_lrem hx hb d_M_clear_50 h10 ?_
        obtain ⟨v11, h12, hf⟩ := op_let hf
        refine sw_l h12 ?_
        refine lv_lstore (lv' := [(8, .long v11), (0, .ref (ad 0)), (1, .int x1), (2, .int x2), (3, .long x3), (5, .long x5), (7, .int x7)]) hx hb d_M_clear_51 hl (by decide) rfl (fun ls hl => ?_)
        refine lv_iload_n hx hb d_M_clear_53 rfl (lv_at hl 2 rfl) ?_
        refine lv_istore (lv' := [(10, .int x1), (8, .long v11), (0, .ref (ad 0)), (1, .int x1), (2, .int x2), (3, .long x3), (5, .long x5), (7, .int x7)]) hx hb d_M_clear_54 hl (by decide) rfl (fun ls hl => ?_)
        obtain ⟨v13, v14, v15, v16, v17, w18, hc19, hf⟩ := op_b6 hf
        refine L_56 _ _ _ _ _ _ _ _ _ _ _ _ _ _ _ hc19 _ _ _ hP hS (lv_sub hl [2, 3, 4, 5, 6, 7, 1, 0] rfl) (fun H locs ls hP hS hl => ?_)
        refine lv_iinc (v := v17 + (1 : Int32)) (lv' := [(7, .int (v17 + (1 : Int32))), (0, .ref (ad 0)), (1, .int v13), (2, .int v14), (3, .long v15), (5, .long v16)]) hx hb d_M_clear_114 hl (k := 5) rfl rfl (by decide) rfl (fun ls hl => ?_)
        refine lv_goto (tgt := 28) hx hb d_M_clear_117 (by decide) ?_
        exact ih _ _ _ _ _ _ _ hf _ _ _ hP hS (lv_sub hl [1, 2, 3, 4, 5, 0] rfl) k_0
  unfold f_M_clear at hf
  refine lv_aload_n hx hb d_M_clear_0 rfl (lv_at hl 0 rfl) ?_
  refine lv_aload_n hx hb d_M_clear_1 rfl (lv_at hl 0 rfl) ?_
  refine wx_get (v := .ref (ad 15)) (C := RQ_M) (T := FQ_M) (N := 21) hx hb ht IQ_M hown hK hP 0 (by decide) (e_g2_0 cy ad _) rfl 18 (by decide) (ht _ kw_546) (fun _ h9 => h9) rfl d_M_clear_2 ?_
  refine lv_iload_n hx hb d_M_clear_5 rfl (lv_at hl 1 rfl) ?_
  refine lv_bipush (v := 10) hx hb d_M_clear_6 (by decide) ?_
  refine lv_imul hx hb d_M_clear_8 ?_
  refine lv_iload_n hx hb d_M_clear_9 rfl (lv_at hl 1 rfl) ?_
  refine lv_iadd hx hb d_M_clear_10 ?_
  obtain ⟨h20, hf⟩ := op_chk hf
  refine wx_lald hx hb hK hP 15 (by decide) (by decide) 100 rfl h20 d_M_clear_11 ?_
  refine lv_lload_n hx hb d_M_clear_12 rfl (lv_at hl 3 rfl) ?_
  refine lv_ldc2 hx hb hown (ht _ kw_682) d_M_clear_13 ?_
  refine lv_lsub hx hb d_M_clear_16 ?_
  refine lv_lload_n hx hb d_M_clear_17 rfl (lv_at hl 3 rfl) ?_
  obtain ⟨r23, w22, hc21, hf⟩ := op_b2 hf
  refine wx_fl (wx_rV (As := [.long (z0.2.2.2 15 ((p1 * (10 : Int32)) + p1).toNatClampNeg), .long (p3 - (2 : Int64)), .long p3]) (rest := []) ⟨hx, hb, hml, hown, ht⟩ (m_M_powered l D cy ad _ z0 (z0.2.2.2 15 ((p1 * (10 : Int32)) + p1).toNatClampNeg) (p3 - (2 : Int64)) p3 _ _ hc21) ⟨callB_of 3 ht (gt_in (fun _ h9 => h9) kw_686) rfl rfl rfl (ht _ kw_52) (ht _ kw_683) q_M_powered ⟨Nat.le_of_ble_eq_true rfl, Nat.le_of_ble_eq_true rfl⟩, ht _ kw_685, ht _ kw_39⟩ nwM_ok hN hK hP (hD _) (by decide) (e_g2_0 cy ad _) rfl rfl hl.1 rfl (Nat.le_of_ble_eq_true rfl) d_M_clear_18 ⟨Nat.zero_le _, Nat.zero_le _⟩) (hD _) hS hA (fun H locs hP hS => ?_)
  refine lv_lstore (lv' := [(5, .long r23), (0, .ref (ad 0)), (1, .int p1), (2, .int p2), (3, .long p3)]) hx hb d_M_clear_21 hl (by decide) rfl (fun ls hl => ?_)
  refine lv_iload_n hx hb d_M_clear_23 rfl (lv_at hl 2 rfl) ?_
  refine lv_iconst (v := 1) hx hb d_M_clear_24 (by decide) ?_
  refine lv_iadd hx hb d_M_clear_25 ?_
  obtain ⟨v24, h25, hf⟩ := op_let hf
  refine sw_i h25 ?_
  refine lv_istore (lv' := [(7, .int v24), (5, .long r23), (0, .ref (ad 0)), (1, .int p1), (2, .int p2), (3, .long p3)]) hx hb d_M_clear_26 hl (by decide) rfl (fun ls hl => ?_)
  obtain ⟨w26, hc27, hf⟩ := op_b1 hf
  refine L_28 _ _ _ _ _ _ _ _ hc27 _ _ _ hP hS (lv_sub hl [2, 3, 4, 5, 1, 0] rfl) (fun H locs ls hP hS hl => ?_)
  obtain rfl := Option.some.inj hf
  exact wx_vret hx hb hr hlocks hAe hP hS d_M_clear_120

def l_M_modulo_108 : Nat → gS → Int32 → Int64 → Int64 → Int32 → Int32 → Option (Int32 × Int64 × Int64 × Int32 × Int32 × gS)
  | 0, _, _, _, _, _, _ => none
  | n + 1, z, x1, x3, x5, x7, x8 =>
    if x1 ≤ x8 then (some (x1, x3, x5, x7, x8, z))
     else (if ((x8 * (10 : Int32)) + x7) < 0 ∨ 100 ≤ ((x8 * (10 : Int32)) + x7).toNatClampNeg then none else
     if (lg_cmp (z.2.2.2 15 ((x8 * (10 : Int32)) + x7).toNatClampNeg) (0 : Int64)) = 0 then (l_M_modulo_108 n z x1 x3 x5 x7 (x8 + (1 : Int32)))
     else (some (x1, x3, x5, x7, x8, z)))
def l_M_modulo_3 : Nat → gS → Int32 → Int32 → Int64 → Int32 → Option (Int32 × Int64 × gS)
  | 0, _, _, _, _, _ => none
  | n + 1, z, x1, x2, x3, x5 =>
    if (x1 * x1) ≤ x5 then (some (x1, x3, z))
     else (if x1 = 0 then none else
     (some ((x5 / x1) : Int32)).bind (fun v6 =>
     if x1 = 0 then none else
     (some ((x5 - x5 / x1 * x1) : Int32)).bind (fun v9 =>
     if v9 = x2 then (if v6 < 0 ∨ 10 ≤ v6.toNatClampNeg then none else
     (some ((z.2.2.2 14 v6.toNatClampNeg) : Int64)).bind (fun v23 =>
     if x3 = 0 then none else
     if x3 = 0 then none else
     if ((v6 * (10 : Int32)) + v9) < 0 ∨ 100 ≤ ((v6 * (10 : Int32)) + v9).toNatClampNeg then none else
     (some (s_J z 15 (vp_updL (z.2.2.2 15) ((v6 * (10 : Int32)) + v9).toNatClampNeg (((v23 - v23 / x3 * x3) + x3) - ((v23 - v23 / x3 * x3) + x3) / x3 * x3)))).bind (fun w28 =>
     l_M_modulo_3 n w28 x1 x2 x3 (x5 + (1 : Int32)))))
     else (if v6 < 0 ∨ 10 ≤ v6.toNatClampNeg then none else
     if v9 < 0 ∨ 10 ≤ v9.toNatClampNeg then none else
     if (((z.2.2.1 12 v6.toNatClampNeg) * (10 : Int32)) + (z.2.2.1 12 v9.toNatClampNeg)) < 0 ∨ 100 ≤ (((z.2.2.1 12 v6.toNatClampNeg) * (10 : Int32)) + (z.2.2.1 12 v9.toNatClampNeg)).toNatClampNeg then none else
     (some ((z.2.2.1 13 (((z.2.2.1 12 v6.toNatClampNeg) * (10 : Int32)) + (z.2.2.1 12 v9.toNatClampNeg)).toNatClampNeg).toInt64 : Int64)).bind (fun v15 =>
     if x3 = 0 then none else
     if x3 = 0 then none else
     if ((v6 * (10 : Int32)) + v9) < 0 ∨ 100 ≤ ((v6 * (10 : Int32)) + v9).toNatClampNeg then none else
     (some (s_J z 15 (vp_updL (z.2.2.2 15) ((v6 * (10 : Int32)) + v9).toNatClampNeg (((v15 - v15 / x3 * x3) + x3) - ((v15 - v15 / x3 * x3) + x3) / x3 * x3)))).bind (fun w20 =>
     l_M_modulo_3 n w20 x1 x2 x3 (x5 + (1 : Int32))))))))
def l_M_modulo_98 : Nat → gS → Int32 → Int64 → Int64 → Int32 → Option (Nat × Int64 × Int64 × gS)
  | 0, _, _, _, _, _ => none
  | n + 1, z, x1, x3, x5, x7 =>
    if x1 ≤ x7 then (some (1, x3, x5, z))
     else (bd6 (l_M_modulo_108 200 z x1 x3 x5 x7 x7) (fun v31 v32 v33 v34 v35 w36 =>
     if v35 = v31 then (some (0, v32, v33, w36))
     else (if v35 = v34 then (bd1 (f_M_exchange w36 v35 v34) (fun w41 =>
     if ((v34 * (10 : Int32)) + v34) < 0 ∨ 100 ≤ ((v34 * (10 : Int32)) + v34).toNatClampNeg then none else
     if v32 = 0 then none else
     (some (((v33 * (w41.2.2.2 15 ((v34 * (10 : Int32)) + v34).toNatClampNeg)) - (v33 * (w41.2.2.2 15 ((v34 * (10 : Int32)) + v34).toNatClampNeg)) / v32 * v32) : Int64)).bind (fun v44 =>
     bd1 (f_M_clear w41 v34 v31 v32) (fun w47 =>
     l_M_modulo_98 n w47 v31 v32 v44 (v34 + (1 : Int32))))))
     else ((some ((v32 - v33) : Int64)).bind (fun v48 =>
     bd1 (f_M_exchange w36 v35 v34) (fun w51 =>
     if ((v34 * (10 : Int32)) + v34) < 0 ∨ 100 ≤ ((v34 * (10 : Int32)) + v34).toNatClampNeg then none else
     if v32 = 0 then none else
     (some (((v48 * (w51.2.2.2 15 ((v34 * (10 : Int32)) + v34).toNatClampNeg)) - (v48 * (w51.2.2.2 15 ((v34 * (10 : Int32)) + v34).toNatClampNeg)) / v32 * v32) : Int64)).bind (fun v54 =>
     bd1 (f_M_clear w51 v34 v31 v32) (fun w57 =>
     l_M_modulo_98 n w57 v31 v32 v54 (v34 + (1 : Int32))))))))))
def f_M_modulo (z0 : gS) (p1 : Int32) (p2 : Int32) (p3 : Int64) : Option (Int64 × gS) :=
 bd3 (l_M_modulo_3 200 z0 p1 p2 p3 (0 : Int32)) (fun v58 v59 w60 =>
 bd4 (l_M_modulo_98 200 w60 v58 v59 (1 : Int64) (0 : Int32)) (fun e62 v63 v64 w65 =>
 if e62 = 0 then (some ((0 : Int64), w65))
 else (if v63 = 0 then none else
 some ((v64 - v64 / v63 * v63), w65))))
set_option maxHeartbeats 4000000 in
set_option maxRecDepth 100000 in
theorem m_M_modulo (l : Launch) (D : va_G) (cy : Nat → ClassId) (ad : Nat → Nat) (sz : Nat) (z0 : gS) (p1 : Int32) (p2 : Int32) (p3 : Int64) (r : Int64) (zz : gS) (hf : f_M_modulo z0 p1 p2 p3 = some (r, zz)) : Met l y_M_modulo (Cond.code y_M_modulo c_M_modulo 10 (some .long) :: gt_ws) ({ frames := 2, cells := 0, slots := 0, locals := 90 }) (sPc D cl_all (gTy cy) nwM 16 ad (g2 cy ad z0) sz [.ref (ad 0), .int p1, .int p2, .long p3]) (sQl D cl_all 16 ad (g2 cy ad z0) sz r (g2 cy ad zz)) 0 0 (va_A (wl 16 ad (g2 cy ad z0)) sz) := by
  refine Met.ofW (cc := c_M_modulo) (maxL := 10) (ret := (some .long)) (by decide) rfl ?_
  intro p e s m args below meth c s₁ B hml hv
  obtain ⟨rfl, hsz, hP, hK, hN, hD0⟩ := hv
  have hx := B.exec
  have hb := B.bytes
  have hr := B.returns
  have hts := atoms_spec (ws := (Cond.code y_M_modulo c_M_modulo 10 (some .long) :: gt_ws)) B.pre
  have ht : ∀ w ∈ gt_ws, w.before _ s = true := fun w h => hts w (List.mem_cons_of_mem _ h)
  have hown : s.vm.findClass RQ_M = some m.cls := findClass_of_methodNamed B.named
  have hlocks := B.notSynchronized
  subst hsz
  have hD1 := hD0.self (sz := s.heap.size)
  obtain ⟨A, hAe⟩ : ∃ A, A = va_A (wl 16 ad (g2 cy ad z0)) s.heap.size := ⟨_, rfl⟩
  rw [← hAe] at hD1
  have hD : ∀ g, va_D A (wl 16 ad g) := fun _ => wl_D hD1
  have hA : ∀ q : Nat, s.heap.size ≤ q → A q := fun q h => by rw [hAe]; exact Or.inr h
  have hS : va_S A s.heap s.heap [] := va_S.rf
  have hl := lv_entry ([.ref (ad 0), .int p1, .int p2, .long p3]) (n := 10) (Nat.le_of_ble_eq_true rfl)
  rw [lg_entry_eq]
  generalize (lg_sl ([.ref (ad 0), .int p1, .int p2, .long p3]) ++ List.replicate (10 - (lg_sl ([.ref (ad 0), .int p1, .int p2, .long p3])).length) Slot.unset).toArray = ls at hl ⊢
  have hl : lv_has ls 10 [(0, .ref (ad 0)), (1, .int p1), (2, .int p2), (3, .long p3)] := hl
  have L_108 : ∀ (n : Nat) (z : gS) (x1 : Int32) (x3 : Int64) (x5 : Int64) (x7 : Int32) (x8 : Int32) (y1 : Int32) (y3 : Int64) (y5 : Int64) (y7 : Int32) (y8 : Int32) (z9 : gS), l_M_modulo_108 n z x1 x3 x5 x7 x8 = some (y1, y3, y5, y7, y8, z9) → ∀ (H : Heap) (locs : List Loc) (ls : Array Slot), va_P D cl_all (wl 16 ad (g2 cy ad z)) H → va_S A s.heap H locs → lv_has ls 10 [(0, .ref (ad 0)), (1, .int x1), (3, .long x3), (5, .long x5), (7, .int x7), (8, .int x8)] →
      (∀ (H : Heap) (locs : List Loc) (ls : Array Slot), va_P D cl_all (wl 16 ad (g2 cy ad z9)) H → va_S A s.heap H locs → lv_has ls 10 [(0, .ref (ad 0)), (1, .int y1), (3, .long y3), (5, .long y5), (7, .int y7), (8, .int y8)] → W p l e (headSpec (Cond.code y_M_modulo c_M_modulo 10 (some .long) :: gt_ws) ({ frames := 2, cells := 0, slots := 0, locals := 90 })).room s m ([.ref (ad 0), .int p1, .int p2, .long p3]).toArray below meth c H locs 0 0 (MQ below (sQl D cl_all 16 ad (g2 cy ad z0) s.heap.size r (g2 cy ad zz)) ([.ref (ad 0), .int p1, .int p2, .long p3]).toArray s 0 0 (va_A (wl 16 ad (g2 cy ad z0)) s.heap.size)) (F0 m 138 ls [])) →
      W p l e (headSpec (Cond.code y_M_modulo c_M_modulo 10 (some .long) :: gt_ws) ({ frames := 2, cells := 0, slots := 0, locals := 90 })).room s m ([.ref (ad 0), .int p1, .int p2, .long p3]).toArray below meth c H locs 0 0 (MQ below (sQl D cl_all 16 ad (g2 cy ad z0) s.heap.size r (g2 cy ad zz)) ([.ref (ad 0), .int p1, .int p2, .long p3]).toArray s 0 0 (va_A (wl 16 ad (g2 cy ad z0)) s.heap.size)) (F0 m 108 ls []) := by
    intro n
    induction n with
    | zero => intro z x1 x3 x5 x7 x8 y1 y3 y5 y7 y8 z9 hf; rw [l_M_modulo_108] at hf; cases hf
    | succ n ih =>
      intro z x1 x3 x5 x7 x8 y1 y3 y5 y7 y8 z9 hf H locs ls hP hS hl k_0
      rw [l_M_modulo_108] at hf
      refine lv_iload hx hb d_M_modulo_108 (lv_at hl 5 rfl) ?_
      refine lv_iload_n hx hb d_M_modulo_110 rfl (lv_at hl 1 rfl) ?_
      refine lv_icmp_ge (tgt := 138) hx hb d_M_modulo_111 (by decide) (fun c1 => ?_) (fun c1 => ?_)
      ·
        have hf := op_pos hf c1
        cases hf
        exact k_0 _ _ _ hP hS (lv_sub hl [0, 1, 2, 3, 4, 5] rfl)
      ·
        have hf := op_neg hf c1
        refine lv_aload_n hx hb d_M_modulo_114 rfl (lv_at hl 0 rfl) ?_
        refine wx_get (v := .ref (ad 15)) (C := RQ_M) (T := FQ_M) (N := 21) hx hb ht IQ_M hown hK hP 0 (by decide) (e_g2_0 cy ad _) rfl 18 (by decide) (ht _ kw_546) (fun _ h9 => h9) rfl d_M_modulo_115 ?_
        refine lv_iload hx hb d_M_modulo_118 (lv_at hl 5 rfl) ?_
        refine lv_bipush (v := 10) hx hb d_M_modulo_120 (by decide) ?_
        refine lv_imul hx hb d_M_modulo_122 ?_
        refine lv_iload hx hb d_M_modulo_123 (lv_at hl 4 rfl) ?_
        refine lv_iadd hx hb d_M_modulo_125 ?_
        obtain ⟨h2, hf⟩ := op_chk hf
        refine wx_lald hx hb hK hP 15 (by decide) (by decide) 100 rfl h2 d_M_modulo_126 ?_
        refine lv_lconst (v := 0) hx hb d_M_modulo_127 (by decide) ?_
        refine W.lcmp hx hb d_M_modulo_128 ?_
        refine lv_if_ne (tgt := 138) hx hb d_M_modulo_129 (by decide) (fun c3 => ?_) (fun c3 => ?_)
        ·
          have hf := op_neg hf c3
          cases hf
          exact k_0 _ _ _ hP hS (lv_sub hl [0, 1, 2, 3, 4, 5] rfl)
        ·
          have hf := op_pos hf c3
          refine lv_iinc (v := x8 + (1 : Int32)) (lv' := [(8, .int (x8 + (1 : Int32))), (0, .ref (ad 0)), (1, .int x1), (3, .long x3), (5, .long x5), (7, .int x7)]) hx hb d_M_modulo_132 hl (k := 5) rfl rfl (by decide) rfl (fun ls hl => ?_)
          refine lv_goto (tgt := 108) hx hb d_M_modulo_135 (by decide) ?_
          exact ih _ _ _ _ _ _ _ _ _ _ _ _ hf _ _ _ hP hS (lv_sub hl [1, 2, 3, 4, 5, 0] rfl) k_0
  have L_3 : ∀ (n : Nat) (z : gS) (x1 : Int32) (x2 : Int32) (x3 : Int64) (x5 : Int32) (y1 : Int32) (y3 : Int64) (z9 : gS), l_M_modulo_3 n z x1 x2 x3 x5 = some (y1, y3, z9) → ∀ (H : Heap) (locs : List Loc) (ls : Array Slot), va_P D cl_all (wl 16 ad (g2 cy ad z)) H → va_S A s.heap H locs → lv_has ls 10 [(0, .ref (ad 0)), (1, .int x1), (2, .int x2), (3, .long x3), (5, .int x5)] →
      (∀ (H : Heap) (locs : List Loc) (ls : Array Slot), va_P D cl_all (wl 16 ad (g2 cy ad z9)) H → va_S A s.heap H locs → lv_has ls 10 [(0, .ref (ad 0)), (1, .int y1), (3, .long y3)] → W p l e (headSpec (Cond.code y_M_modulo c_M_modulo 10 (some .long) :: gt_ws) ({ frames := 2, cells := 0, slots := 0, locals := 90 })).room s m ([.ref (ad 0), .int p1, .int p2, .long p3]).toArray below meth c H locs 0 0 (MQ below (sQl D cl_all 16 ad (g2 cy ad z0) s.heap.size r (g2 cy ad zz)) ([.ref (ad 0), .int p1, .int p2, .long p3]).toArray s 0 0 (va_A (wl 16 ad (g2 cy ad z0)) s.heap.size)) (F0 m 92 ls [])) →
      W p l e (headSpec (Cond.code y_M_modulo c_M_modulo 10 (some .long) :: gt_ws) ({ frames := 2, cells := 0, slots := 0, locals := 90 })).room s m ([.ref (ad 0), .int p1, .int p2, .long p3]).toArray below meth c H locs 0 0 (MQ below (sQl D cl_all 16 ad (g2 cy ad z0) s.heap.size r (g2 cy ad zz)) ([.ref (ad 0), .int p1, .int p2, .long p3]).toArray s 0 0 (va_A (wl 16 ad (g2 cy ad z0)) s.heap.size)) (F0 m 3 ls []) := by
    intro n
    induction n with
    | zero => intro z x1 x2 x3 x5 y1 y3 z9 hf; rw [l_M_modulo_3] at hf; cases hf
    | succ n ih =>
      intro z x1 x2 x3 x5 y1 y3 z9 hf H locs ls hP hS hl k_0
      rw [l_M_modulo_3] at hf
      refine lv_iload hx hb d_M_modulo_3 (lv_at hl 4 rfl) ?_
      refine lv_iload_n hx hb d_M_modulo_5 rfl (lv_at hl 1 rfl) ?_
      refine lv_iload_n hx hb d_M_modulo_6 rfl (lv_at hl 1 rfl) ?_
      refine lv_imul hx hb d_M_modulo_7 ?_
      refine lv_icmp_ge (tgt := 92) hx hb d_M_modulo_8 (by decide) (fun c4 => ?_) (fun c4 => ?_)
      ·
        have hf := op_pos hf c4
        cases hf
        exact k_0 _ _ _ hP hS (lv_sub hl [0, 1, 3] rfl)
      ·
        have hf := op_neg hf c4
        refine lv_iload hx hb d_M_modulo_11 (lv_at hl 4 rfl) ?_
        refine lv_iload_n hx hb d_M_modulo_13 rfl (lv_at hl 1 rfl) ?_
        obtain ⟨h5, hf⟩ := op_chk hf
        refine lv_idiv hx hb d_M_modulo_14 h5 ?_
        obtain ⟨v6, h7, hf⟩ := op_let hf
        refine sw_i h7 ?_
        refine lv_istore (lv' := [(6, .int v6), (0, .ref (ad 0)), (1, .int x1), (2, .int x2), (3, .long x3), (5, .int x5)]) hx hb d_M_modulo_15 hl (by decide) rfl (fun ls hl => ?_)
        refine lv_iload hx hb d_M_modulo_17 (lv_at hl 5 rfl) ?_
        refine lv_iload_n hx hb d_M_modulo_19 rfl (lv_at hl 2 rfl) ?_
        obtain ⟨h8, hf⟩ := op_chk hf
        refine lv_irem hx hb d_M_modulo_20 h8 ?_
        obtain ⟨v9, h10, hf⟩ := op_let hf
        refine sw_i h10 ?_
        refine lv_istore (lv' := [(7, .int v9), (6, .int v6), (0, .ref (ad 0)), (1, .int x1), (2, .int x2), (3, .long x3), (5, .int x5)]) hx hb d_M_modulo_21 hl (by decide) rfl (fun ls hl => ?_)
        refine lv_iload hx hb d_M_modulo_23 (lv_at hl 0 rfl) ?_
        refine lv_iload_n hx hb d_M_modulo_25 rfl (lv_at hl 4 rfl) ?_
        refine lv_icmp_ne (tgt := 39) hx hb d_M_modulo_26 (by decide) (fun c11 => ?_) (fun c11 => ?_)
        ·
          have hf := op_neg hf c11
          refine lv_aload_n hx hb d_M_modulo_39 rfl (lv_at hl 2 rfl) ?_
          refine wx_get (v := .ref (ad 13)) (C := RQ_M) (T := FQ_M) (N := 21) hx hb ht IQ_M hown hK hP 0 (by decide) (e_g2_0 cy ad _) rfl 16 (by decide) (ht _ kw_544) (fun _ h9 => h9) rfl d_M_modulo_40 ?_
          refine lv_aload_n hx hb d_M_modulo_43 rfl (lv_at hl 2 rfl) ?_
          refine wx_get (v := .ref (ad 12)) (C := RQ_M) (T := FQ_M) (N := 21) hx hb ht IQ_M hown hK hP 0 (by decide) (e_g2_0 cy ad _) rfl 14 (by decide) (ht _ kw_542) (fun _ h9 => h9) rfl d_M_modulo_44 ?_
          refine lv_iload hx hb d_M_modulo_47 (lv_at hl 1 rfl) ?_
          obtain ⟨h12, hf⟩ := op_chk hf
          refine wx_iald hx hb hK hP 12 (by decide) (by decide) 10 rfl h12 d_M_modulo_49 ?_
          refine lv_bipush (v := 10) hx hb d_M_modulo_50 (by decide) ?_
          refine lv_imul hx hb d_M_modulo_52 ?_
          refine lv_aload_n hx hb d_M_modulo_53 rfl (lv_at hl 2 rfl) ?_
          refine wx_get (v := .ref (ad 12)) (C := RQ_M) (T := FQ_M) (N := 21) hx hb ht IQ_M hown hK hP 0 (by decide) (e_g2_0 cy ad _) rfl 14 (by decide) (ht _ kw_542) (fun _ h9 => h9) rfl d_M_modulo_54 ?_
          refine lv_iload hx hb d_M_modulo_57 (lv_at hl 0 rfl) ?_
          obtain ⟨h13, hf⟩ := op_chk hf
          refine wx_iald hx hb hK hP 12 (by decide) (by decide) 10 rfl h13 d_M_modulo_59 ?_
          refine lv_iadd hx hb d_M_modulo_60 ?_
          obtain ⟨h14, hf⟩ := op_chk hf
          refine wx_iald hx hb hK hP 13 (by decide) (by decide) 100 rfl h14 d_M_modulo_61 ?_
          refine lv_i2l hx hb d_M_modulo_62 rfl ?_
          obtain ⟨v15, h16, hf⟩ := op_let hf
          refine sw_l h16 ?_
          refine lv_lstore (lv' := [(8, .long v15), (7, .int v9), (6, .int v6), (0, .ref (ad 0)), (1, .int x1), (2, .int x2), (3, .long x3), (5, .int x5)]) hx hb d_M_modulo_63 hl (by decide) rfl (fun ls hl => ?_)
          refine lv_aload_n hx hb d_M_modulo_65 rfl (lv_at hl 3 rfl) ?_
          refine wx_get (v := .ref (ad 15)) (C := RQ_M) (T := FQ_M) (N := 21) hx hb ht IQ_M hown hK hP 0 (by decide) (e_g2_0 cy ad _) rfl 18 (by decide) (ht _ kw_546) (fun _ h9 => h9) rfl d_M_modulo_66 ?_
          refine lv_iload hx hb d_M_modulo_69 (lv_at hl 2 rfl) ?_
          refine lv_bipush (v := 10) hx hb d_M_modulo_71 (by decide) ?_
          refine lv_imul hx hb d_M_modulo_73 ?_
          refine lv_iload hx hb d_M_modulo_74 (lv_at hl 1 rfl) ?_
          refine lv_iadd hx hb d_M_modulo_76 ?_
          refine lv_lload hx hb d_M_modulo_77 (lv_at hl 0 rfl) ?_
          refine lv_lload_n hx hb d_M_modulo_79 rfl (lv_at hl 6 rfl) ?_
          obtain ⟨h17, hf⟩ := op_chk hf
          refine lv_lrem hx hb d_M_modulo_80 h17 ?_
          refine lv_lload_n hx hb d_M_modulo_81 rfl (lv_at hl 6 rfl) ?_
          refine lv_ladd hx hb d_M_modulo_82 ?_
          refine lv_lload_n hx hb d_M_modulo_83 rfl (lv_at hl 6 rfl) ?_
          obtain ⟨h18, hf⟩ := op_chk hf
          refine lv_lrem hx hb d_M_modulo_84 h18 ?_
          obtain ⟨h19, hf⟩ := op_chk hf
          refine wx_last hx hb hK hP (hD _) hS 15 (by decide) (by decide) 100 rfl h19 d_M_modulo_85 (fun H locs hP hS => ?_)
          obtain ⟨w20, h21, hf⟩ := op_let hf
          rw [h21] at hP
          refine lv_iinc (v := x5 + (1 : Int32)) (lv' := [(5, .int (x5 + (1 : Int32))), (8, .long v15), (7, .int v9), (6, .int v6), (0, .ref (ad 0)), (1, .int x1), (2, .int x2), (3, .long x3)]) hx hb d_M_modulo_86 hl (k := 7) rfl rfl (by decide) rfl (fun ls hl => ?_)
          refine lv_goto (tgt := 3) hx hb d_M_modulo_89 (by decide) ?_
          exact ih _ _ _ _ _ _ _ _ hf _ _ _ hP hS (lv_sub hl [4, 5, 6, 7, 0] rfl) k_0
        ·
          have hf := op_pos hf c11
          refine lv_aload_n hx hb d_M_modulo_29 rfl (lv_at hl 2 rfl) ?_
          refine wx_get (v := .ref (ad 14)) (C := RQ_M) (T := FQ_M) (N := 21) hx hb ht IQ_M hown hK hP 0 (by decide) (e_g2_0 cy ad _) rfl 17 (by decide) (ht _ kw_545) (fun _ h9 => h9) rfl d_M_modulo_30 ?_
          refine lv_iload hx hb d_M_modulo_33 (lv_at hl 1 rfl) ?_
          obtain ⟨h22, hf⟩ := op_chk hf
          refine wx_lald hx hb hK hP 14 (by decide) (by decide) 10 rfl h22 d_M_modulo_35 ?_
          refine lv_goto (tgt := 63) hx hb d_M_modulo_36 (by decide) ?_
          obtain ⟨v23, h24, hf⟩ := op_let hf
          refine sw_l h24 ?_
          refine lv_lstore (lv' := [(8, .long v23), (7, .int v9), (6, .int v6), (0, .ref (ad 0)), (1, .int x1), (2, .int x2), (3, .long x3), (5, .int x5)]) hx hb d_M_modulo_63 hl (by decide) rfl (fun ls hl => ?_)
          refine lv_aload_n hx hb d_M_modulo_65 rfl (lv_at hl 3 rfl) ?_
          refine wx_get (v := .ref (ad 15)) (C := RQ_M) (T := FQ_M) (N := 21) hx hb ht IQ_M hown hK hP 0 (by decide) (e_g2_0 cy ad _) rfl 18 (by decide) (ht _ kw_546) (fun _ h9 => h9) rfl d_M_modulo_66 ?_
          refine lv_iload hx hb d_M_modulo_69 (lv_at hl 2 rfl) ?_
          refine lv_bipush (v := 10) hx hb d_M_modulo_71 (by decide) ?_
          refine lv_imul hx hb d_M_modulo_73 ?_
          refine lv_iload hx hb d_M_modulo_74 (lv_at hl 1 rfl) ?_
          refine lv_iadd hx hb d_M_modulo_76 ?_
          refine lv_lload hx hb d_M_modulo_77 (lv_at hl 0 rfl) ?_
          refine lv_lload_n hx hb d_M_modulo_79 rfl (lv_at hl 6 rfl) ?_
          obtain ⟨h25, hf⟩ := op_chk hf
          refine lv_lrem hx hb d_M_modulo_80 h25 ?_
          refine lv_lload_n hx hb d_M_modulo_81 rfl (lv_at hl 6 rfl) ?_
          refine lv_ladd hx hb d_M_modulo_82 ?_
          refine lv_lload_n hx hb d_M_modulo_83 rfl (lv_at hl 6 rfl) ?_
          obtain ⟨h26, hf⟩ := op_chk hf
          refine lv_lrem hx hb d_M_modulo_84 h26 ?_
          obtain ⟨h27, hf⟩ := op_chk hf
          refine wx_last hx hb hK hP (hD _) hS 15 (by decide) (by decide) 100 rfl h27 d_M_modulo_85 (fun H locs hP hS => ?_)
          obtain ⟨w28, h29, hf⟩ := op_let hf
          rw [h29] at hP
          refine lv_iinc (v := x5 + (1 : Int32)) (lv' := [(5, .int (x5 + (1 : Int32))), (8, .long v23), (7, .int v9), (6, .int v6), (0, .ref (ad 0)), (1, .int x1), (2, .int x2), (3, .long x3)]) hx hb d_M_modulo_86 hl (k := 7) rfl rfl (by decide) rfl (fun ls hl => ?_)
          refine lv_goto (tgt := 3) hx hb d_M_modulo_89 (by decide) ?_
          exact ih _ _ _ _ _ _ _ _ hf _ _ _ hP hS (lv_sub hl [4, 5, 6, 7, 0] rfl) k_0
  have L_98 : ∀ (n : Nat) (z : gS) (x1 : Int32) (x3 : Int64) (x5 : Int64) (x7 : Int32) (ee : Nat) (y3 : Int64) (y5 : Int64) (z9 : gS), l_M_modulo_98 n z x1 x3 x5 x7 = some (ee, y3, y5, z9) → ∀ (H : Heap) (locs : List Loc) (ls : Array Slot), va_P D cl_all (wl 16 ad (g2 cy ad z)) H → va_S A s.heap H locs → lv_has ls 10 [(0, .ref (ad 0)), (1, .int x1), (3, .long x3), (5, .long x5), (7, .int x7)] →
      (ee = 0 → ∀ (H : Heap) (locs : List Loc) (ls : Array Slot), va_P D cl_all (wl 16 ad (g2 cy ad z9)) H → va_S A s.heap H locs → lv_has ls 10 [] → W p l e (headSpec (Cond.code y_M_modulo c_M_modulo 10 (some .long) :: gt_ws) ({ frames := 2, cells := 0, slots := 0, locals := 90 })).room s m ([.ref (ad 0), .int p1, .int p2, .long p3]).toArray below meth c H locs 0 0 (MQ below (sQl D cl_all 16 ad (g2 cy ad z0) s.heap.size r (g2 cy ad zz)) ([.ref (ad 0), .int p1, .int p2, .long p3]).toArray s 0 0 (va_A (wl 16 ad (g2 cy ad z0)) s.heap.size)) (F0 m 144 ls [])) →
      (ee = 1 → ∀ (H : Heap) (locs : List Loc) (ls : Array Slot), va_P D cl_all (wl 16 ad (g2 cy ad z9)) H → va_S A s.heap H locs → lv_has ls 10 [(3, .long y3), (5, .long y5)] → W p l e (headSpec (Cond.code y_M_modulo c_M_modulo 10 (some .long) :: gt_ws) ({ frames := 2, cells := 0, slots := 0, locals := 90 })).room s m ([.ref (ad 0), .int p1, .int p2, .long p3]).toArray below meth c H locs 0 0 (MQ below (sQl D cl_all 16 ad (g2 cy ad z0) s.heap.size r (g2 cy ad zz)) ([.ref (ad 0), .int p1, .int p2, .long p3]).toArray s 0 0 (va_A (wl 16 ad (g2 cy ad z0)) s.heap.size)) (F0 m 201 ls [])) →
      W p l e (headSpec (Cond.code y_M_modulo c_M_modulo 10 (some .long) :: gt_ws) ({ frames := 2, cells := 0, slots := 0, locals := 90 })).room s m ([.ref (ad 0), .int p1, .int p2, .long p3]).toArray below meth c H locs 0 0 (MQ below (sQl D cl_all 16 ad (g2 cy ad z0) s.heap.size r (g2 cy ad zz)) ([.ref (ad 0), .int p1, .int p2, .long p3]).toArray s 0 0 (va_A (wl 16 ad (g2 cy ad z0)) s.heap.size)) (F0 m 98 ls []) := by
    intro n
    induction n with
    | zero => intro z x1 x3 x5 x7 ee y3 y5 z9 hf; rw [l_M_modulo_98] at hf; cases hf
    | succ n ih =>
      intro z x1 x3 x5 x7 ee y3 y5 z9 hf H locs ls hP hS hl k_0 k_1
      rw [l_M_modulo_98] at hf
      refine lv_iload hx hb d_M_modulo_98 (lv_at hl 4 rfl) ?_
      refine lv_iload_n hx hb d_M_modulo_100 rfl (lv_at hl 1 rfl) ?_
      refine lv_icmp_ge (tgt := 201) hx hb d_M_modulo_101 (by decide) (fun c30 => ?_) (fun c30 => ?_)
      ·
        have hf := op_pos hf c30
        cases hf
        exact k_1 rfl _ _ _ hP hS (lv_sub hl [2, 3] rfl)
      ·
        have hf := op_neg hf c30
        refine lv_iload hx hb d_M_modulo_104 (lv_at hl 4 rfl) ?_
        refine lv_istore (lv' := [(8, .int x7), (0, .ref (ad 0)), (1, .int x1), (3, .long x3), (5, .long x5), (7, .int x7)]) hx hb d_M_modulo_106 hl (by decide) rfl (fun ls hl => ?_)
        obtain ⟨v31, v32, v33, v34, v35, w36, hc37, hf⟩ := op_b6 hf
        refine L_108 _ _ _ _ _ _ _ _ _ _ _ _ _ hc37 _ _ _ hP hS (lv_sub hl [1, 2, 3, 4, 5, 0] rfl) (fun H locs ls hP hS hl => ?_)
        refine lv_iload hx hb d_M_modulo_138 (lv_at hl 5 rfl) ?_
        refine lv_iload_n hx hb d_M_modulo_140 rfl (lv_at hl 1 rfl) ?_
        refine lv_icmp_ne (tgt := 146) hx hb d_M_modulo_141 (by decide) (fun c38 => ?_) (fun c38 => ?_)
        ·
          have hf := op_neg hf c38
          refine lv_iload hx hb d_M_modulo_146 (lv_at hl 5 rfl) ?_
          refine lv_iload hx hb d_M_modulo_148 (lv_at hl 4 rfl) ?_
          refine lv_icmp_eq (tgt := 159) hx hb d_M_modulo_150 (by decide) (fun c39 => ?_) (fun c39 => ?_)
          ·
            have hf := op_pos hf c39
            refine lv_aload_n hx hb d_M_modulo_159 rfl (lv_at hl 0 rfl) ?_
            refine lv_iload hx hb d_M_modulo_160 (lv_at hl 5 rfl) ?_
            refine lv_iload hx hb d_M_modulo_162 (lv_at hl 4 rfl) ?_
            obtain ⟨w41, hc40, hf⟩ := op_b1 hf
            refine wx_fv (wx_rV (As := [.int v35, .int v34]) (rest := []) ⟨hx, hb, hml, hown, ht⟩ (m_M_exchange l D cy ad _ w36 v35 v34 _ hc40) ⟨callB_of 2 ht (gt_in (fun _ h9 => h9) kw_677) rfl rfl rfl (ht _ kw_52) (ht _ kw_674) q_M_exchange ⟨Nat.le_of_ble_eq_true rfl, Nat.le_of_ble_eq_true rfl⟩, ht _ kw_676, ht _ kw_37⟩ nwM_ok hN hK hP (hD _) (by decide) (e_g2_0 cy ad _) rfl rfl hl.1 rfl (Nat.le_of_ble_eq_true rfl) d_M_modulo_164 ⟨Nat.zero_le _, Nat.zero_le _⟩) (hD _) hS hA (fun H locs hP hS => ?_)
            refine lv_lload hx hb d_M_modulo_167 (lv_at hl 3 rfl) ?_
            refine lv_aload_n hx hb d_M_modulo_169 rfl (lv_at hl 0 rfl) ?_
            refine wx_get (v := .ref (ad 15)) (C := RQ_M) (T := FQ_M) (N := 21) hx hb ht IQ_M hown hK hP 0 (by decide) (e_g2_0 cy ad _) rfl 18 (by decide) (ht _ kw_546) (fun _ h9 => h9) rfl d_M_modulo_170 ?_
            refine lv_iload hx hb d_M_modulo_173 (lv_at hl 4 rfl) ?_
            refine lv_bipush (v := 10) hx hb d_M_modulo_175 (by decide) ?_
            refine lv_imul hx hb d_M_modulo_177 ?_
            refine lv_iload hx hb d_M_modulo_178 (lv_at hl 4 rfl) ?_
            refine lv_iadd hx hb d_M_modulo_180 ?_
            obtain ⟨h42, hf⟩ := op_chk hf
            refine wx_lald hx hb hK hP 15 (by decide) (by decide) 100 rfl h42 d_M_modulo_181 ?_
            refine lv_lmul hx hb d_M_modulo_182 ?_
            refine lv_lload_n hx hb d_M_modulo_183 rfl (lv_at hl 2 rfl) ?_
            obtain ⟨h43, hf⟩ := op_chk hf
            refine lv_lrem hx hb d_M_modulo_184 h43 ?_
            obtain ⟨v44, h45, hf⟩ := op_let hf
            refine sw_l h45 ?_
            refine lv_lstore (lv' := [(5, .long v44), (0, .ref (ad 0)), (1, .int v31), (3, .long v32), (7, .int v34), (8, .int v35)]) hx hb d_M_modulo_185 hl (by decide) rfl (fun ls hl => ?_)
            refine lv_aload_n hx hb d_M_modulo_187 rfl (lv_at hl 1 rfl) ?_
            refine lv_iload hx hb d_M_modulo_188 (lv_at hl 4 rfl) ?_
            refine lv_iload_n hx hb d_M_modulo_190 rfl (lv_at hl 2 rfl) ?_
            refine lv_lload_n hx hb d_M_modulo_191 rfl (lv_at hl 3 rfl) ?_
            obtain ⟨w47, hc46, hf⟩ := op_b1 hf
            refine wx_fv (wx_rV (As := [.int v34, .int v31, .long v32]) (rest := []) ⟨hx, hb, hml, hown, ht⟩ (m_M_clear l D cy ad _ w41 v34 v31 v32 _ hc46) ⟨callB_of 3 ht (gt_in (fun _ h9 => h9) kw_681) rfl rfl rfl (ht _ kw_52) (ht _ kw_678) q_M_clear ⟨Nat.le_of_ble_eq_true rfl, Nat.le_of_ble_eq_true rfl⟩, ht _ kw_680, ht _ kw_38⟩ nwM_ok hN hK hP (hD _) (by decide) (e_g2_0 cy ad _) rfl rfl hl.1 rfl (Nat.le_of_ble_eq_true rfl) d_M_modulo_192 ⟨Nat.zero_le _, Nat.zero_le _⟩) (hD _) hS hA (fun H locs hP hS => ?_)
            refine lv_iinc (v := v34 + (1 : Int32)) (lv' := [(7, .int (v34 + (1 : Int32))), (5, .long v44), (0, .ref (ad 0)), (1, .int v31), (3, .long v32), (8, .int v35)]) hx hb d_M_modulo_195 hl (k := 4) rfl rfl (by decide) rfl (fun ls hl => ?_)
            refine lv_goto (tgt := 98) hx hb d_M_modulo_198 (by decide) ?_
            exact ih _ _ _ _ _ _ _ _ _ hf _ _ _ hP hS (lv_sub hl [2, 3, 4, 1, 0] rfl) k_0 k_1
          ·
            have hf := op_neg hf c39
            refine lv_lload_n hx hb d_M_modulo_153 rfl (lv_at hl 2 rfl) ?_
            refine lv_lload hx hb d_M_modulo_154 (lv_at hl 3 rfl) ?_
            refine lv_lsub hx hb d_M_modulo_156 ?_
            obtain ⟨v48, h49, hf⟩ := op_let hf
            refine sw_l h49 ?_
            refine lv_lstore (lv' := [(5, .long v48), (0, .ref (ad 0)), (1, .int v31), (3, .long v32), (7, .int v34), (8, .int v35)]) hx hb d_M_modulo_157 hl (by decide) rfl (fun ls hl => ?_)
            refine lv_aload_n hx hb d_M_modulo_159 rfl (lv_at hl 1 rfl) ?_
            refine lv_iload hx hb d_M_modulo_160 (lv_at hl 5 rfl) ?_
            refine lv_iload hx hb d_M_modulo_162 (lv_at hl 4 rfl) ?_
            obtain ⟨w51, hc50, hf⟩ := op_b1 hf
            refine wx_fv (wx_rV (As := [.int v35, .int v34]) (rest := []) ⟨hx, hb, hml, hown, ht⟩ (m_M_exchange l D cy ad _ w36 v35 v34 _ hc50) ⟨callB_of 2 ht (gt_in (fun _ h9 => h9) kw_677) rfl rfl rfl (ht _ kw_52) (ht _ kw_674) q_M_exchange ⟨Nat.le_of_ble_eq_true rfl, Nat.le_of_ble_eq_true rfl⟩, ht _ kw_676, ht _ kw_37⟩ nwM_ok hN hK hP (hD _) (by decide) (e_g2_0 cy ad _) rfl rfl hl.1 rfl (Nat.le_of_ble_eq_true rfl) d_M_modulo_164 ⟨Nat.zero_le _, Nat.zero_le _⟩) (hD _) hS hA (fun H locs hP hS => ?_)
            refine lv_lload hx hb d_M_modulo_167 (lv_at hl 0 rfl) ?_
            refine lv_aload_n hx hb d_M_modulo_169 rfl (lv_at hl 1 rfl) ?_
            refine wx_get (v := .ref (ad 15)) (C := RQ_M) (T := FQ_M) (N := 21) hx hb ht IQ_M hown hK hP 0 (by decide) (e_g2_0 cy ad _) rfl 18 (by decide) (ht _ kw_546) (fun _ h9 => h9) rfl d_M_modulo_170 ?_
            refine lv_iload hx hb d_M_modulo_173 (lv_at hl 4 rfl) ?_
            refine lv_bipush (v := 10) hx hb d_M_modulo_175 (by decide) ?_
            refine lv_imul hx hb d_M_modulo_177 ?_
            refine lv_iload hx hb d_M_modulo_178 (lv_at hl 4 rfl) ?_
            refine lv_iadd hx hb d_M_modulo_180 ?_
            obtain ⟨h52, hf⟩ := op_chk hf
            refine wx_lald hx hb hK hP 15 (by decide) (by decide) 100 rfl h52 d_M_modulo_181 ?_
            refine lv_lmul hx hb d_M_modulo_182 ?_
            refine lv_lload_n hx hb d_M_modulo_183 rfl (lv_at hl 3 rfl) ?_
            obtain ⟨h53, hf⟩ := op_chk hf
            refine lv_lrem hx hb d_M_modulo_184 h53 ?_
            obtain ⟨v54, h55, hf⟩ := op_let hf
            refine sw_l h55 ?_
            refine lv_lstore (lv' := [(5, .long v54), (0, .ref (ad 0)), (1, .int v31), (3, .long v32), (7, .int v34), (8, .int v35)]) hx hb d_M_modulo_185 hl (by decide) rfl (fun ls hl => ?_)
            refine lv_aload_n hx hb d_M_modulo_187 rfl (lv_at hl 1 rfl) ?_
            refine lv_iload hx hb d_M_modulo_188 (lv_at hl 4 rfl) ?_
            refine lv_iload_n hx hb d_M_modulo_190 rfl (lv_at hl 2 rfl) ?_
            refine lv_lload_n hx hb d_M_modulo_191 rfl (lv_at hl 3 rfl) ?_
            obtain ⟨w57, hc56, hf⟩ := op_b1 hf
            refine wx_fv (wx_rV (As := [.int v34, .int v31, .long v32]) (rest := []) ⟨hx, hb, hml, hown, ht⟩ (m_M_clear l D cy ad _ w51 v34 v31 v32 _ hc56) ⟨callB_of 3 ht (gt_in (fun _ h9 => h9) kw_681) rfl rfl rfl (ht _ kw_52) (ht _ kw_678) q_M_clear ⟨Nat.le_of_ble_eq_true rfl, Nat.le_of_ble_eq_true rfl⟩, ht _ kw_680, ht _ kw_38⟩ nwM_ok hN hK hP (hD _) (by decide) (e_g2_0 cy ad _) rfl rfl hl.1 rfl (Nat.le_of_ble_eq_true rfl) d_M_modulo_192 ⟨Nat.zero_le _, Nat.zero_le _⟩) (hD _) hS hA (fun H locs hP hS => ?_)
            refine lv_iinc (v := v34 + (1 : Int32)) (lv' := [(7, .int (v34 + (1 : Int32))), (5, .long v54), (0, .ref (ad 0)), (1, .int v31), (3, .long v32), (8, .int v35)]) hx hb d_M_modulo_195 hl (k := 4) rfl rfl (by decide) rfl (fun ls hl => ?_)
            refine lv_goto (tgt := 98) hx hb d_M_modulo_198 (by decide) ?_
            exact ih _ _ _ _ _ _ _ _ _ hf _ _ _ hP hS (lv_sub hl [2, 3, 4, 1, 0] rfl) k_0 k_1
        ·
          have hf := op_pos hf c38
          cases hf
          exact k_0 rfl _ _ _ hP hS (lv_sub hl [] rfl)
  unfold f_M_modulo at hf
  refine lv_iconst (v := 0) hx hb d_M_modulo_0 (by decide) ?_
  refine lv_istore (lv' := [(5, .int (0 : Int32)), (0, .ref (ad 0)), (1, .int p1), (2, .int p2), (3, .long p3)]) hx hb d_M_modulo_1 hl (by decide) rfl (fun ls hl => ?_)
  obtain ⟨v58, v59, w60, hc61, hf⟩ := op_b3 hf
  refine L_3 _ _ _ _ _ _ _ _ _ hc61 _ _ _ hP hS (lv_sub hl [1, 2, 3, 4, 0] rfl) (fun H locs ls hP hS hl => ?_)
  refine lv_lconst (v := 1) hx hb d_M_modulo_92 (by decide) ?_
  refine lv_lstore (lv' := [(5, .long (1 : Int64)), (0, .ref (ad 0)), (1, .int v58), (3, .long v59)]) hx hb d_M_modulo_93 hl (by decide) rfl (fun ls hl => ?_)
  refine lv_iconst (v := 0) hx hb d_M_modulo_95 (by decide) ?_
  refine lv_istore (lv' := [(7, .int (0 : Int32)), (5, .long (1 : Int64)), (0, .ref (ad 0)), (1, .int v58), (3, .long v59)]) hx hb d_M_modulo_96 hl (by decide) rfl (fun ls hl => ?_)
  obtain ⟨e62, v63, v64, w65, hc66, hf⟩ := op_b4 hf
  refine L_98 _ _ _ _ _ _ _ _ _ _ hc66 _ _ _ hP hS (lv_sub hl [2, 3, 4, 1, 0] rfl) (fun he_e62 H locs ls hP hS hl => ?_) (fun he_e62 H locs ls hP hS hl => ?_)
  ·
    have hf := op_pos hf he_e62
    refine lv_lconst (v := 0) hx hb d_M_modulo_144 (by decide) ?_
    obtain ⟨hv9, rfl⟩ := op_inj hf
    exact wx_lret hx hb hr hlocks hAe hP hS hv9 d_M_modulo_145
  ·
    have hf := op_neg hf (by omega)
    refine lv_lload hx hb d_M_modulo_201 (lv_at hl 1 rfl) ?_
    refine lv_lload_n hx hb d_M_modulo_203 rfl (lv_at hl 0 rfl) ?_
    obtain ⟨h67, hf⟩ := op_chk hf
    refine lv_lrem hx hb d_M_modulo_204 h67 ?_
    obtain ⟨hv9, rfl⟩ := op_inj hf
    exact wx_lret hx hb hr hlocks hAe hP hS hv9 d_M_modulo_205
