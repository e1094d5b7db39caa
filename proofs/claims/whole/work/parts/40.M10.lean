def l_M_reaction_119 : Nat → gS → Int32 → Int32 → Int32 → Int32 → Int64 → Int32 → Option (Int32 × Int64 × gS)
  | 0, _, _, _, _, _, _, _ => none
  | n + 1, z, x1, x2, x3, x4, x6, x8 =>
    if (z.1 0) ≤ x8 then (some (x4, x6, z))
     else (if x8 < 0 ∨ 10 ≤ x8.toNatClampNeg then none else
     if (z.2.2.1 4 x8.toNatClampNeg) = x2 then (bd2 (f_M_way z x8 x3) (fun r16 w15 =>
     bd2 (f_M_pull w15 ((1 : Int32) <<< (((8 : Int32) * x1) &&& 31)) x8) (fun r19 w18 =>
     (some ((x6 - (r16.toInt64 * r19)) : Int64)).bind (fun v20 =>
     if x8 < 0 ∨ 10 ≤ x8.toNatClampNeg then none else
     if (w18.2.2.1 5 x8.toNatClampNeg) = x2 then (bd2 (f_M_way w18 x8 x3) (fun r26 w25 =>
     bd2 (f_M_pull w25 ((1 : Int32) <<< (((8 : Int32) * x1) &&& 31)) x8) (fun r29 w28 =>
     (some ((v20 + (r26.toInt64 * r29)) : Int64)).bind (fun v30 =>
     l_M_reaction_119 n w28 x1 x2 x3 x4 v30 (x8 + (1 : Int32))))))
     else (l_M_reaction_119 n w18 x1 x2 x3 x4 v20 (x8 + (1 : Int32)))))))
     else (if x8 < 0 ∨ 10 ≤ x8.toNatClampNeg then none else
     if (z.2.2.1 5 x8.toNatClampNeg) = x2 then (bd2 (f_M_way z x8 x3) (fun r8 w7 =>
     bd2 (f_M_pull w7 ((1 : Int32) <<< (((8 : Int32) * x1) &&& 31)) x8) (fun r11 w10 =>
     (some ((x6 + (r8.toInt64 * r11)) : Int64)).bind (fun v12 =>
     l_M_reaction_119 n w10 x1 x2 x3 x4 v12 (x8 + (1 : Int32))))))
     else (l_M_reaction_119 n z x1 x2 x3 x4 x6 (x8 + (1 : Int32)))))
def f_M_reaction (z0 : gS) (p1 : Int32) (p2 : Int32) (p3 : Int32) (p4 : Int32) : Option (Int64 × gS) :=
 if (z0.1 1) = 0 then (some ((-4000000000000000000 : Int64), z0))
 else (bd2 (f_M_off z0 p1 (3 : Int32)) (fun r35 w34 =>
 if r35 = 0 then (bd2 (f_M_off w34 p2 (4 : Int32)) (fun r39 w38 =>
 if r39 = 0 then (if p2 < 0 ∨ 5 ≤ p2.toNatClampNeg then none else
 if (w38.2.2.1 1 p2.toNatClampNeg) = 0 then (some ((-4000000000000000000 : Int64), w38))
 else (bd2 (f_M_off w38 p3 (1 : Int32)) (fun r45 w44 =>
 if r45 = 0 then (bd2 (f_M_off w44 p4 (1 : Int32)) (fun r49 w48 =>
 if r49 = 0 then ((some (((p2 * (2 : Int32)) + p3) : Int32)).bind (fun v51 =>
 if v51 < 0 ∨ 10 ≤ v51.toNatClampNeg then none else
 if (w48.2.2.1 7 v51.toNatClampNeg) = 0 then (some ((-4000000000000000000 : Int64), w48))
 else (if v51 < 0 ∨ 10 ≤ v51.toNatClampNeg then none else
 if v51 < 0 ∨ 10 ≤ v51.toNatClampNeg then none else
 if ((p1 * (10 : Int32)) + v51) < 0 ∨ 40 ≤ ((p1 * (10 : Int32)) + v51).toNatClampNeg then none else
 bd2 (f_M_determinant w48) (fun r60 w59 =>
 (some ((((((w48.2.2.1 9 v51.toNatClampNeg).toInt64) * ((w48.2.2.1 8 v51.toNatClampNeg).toInt64)) - ((w48.2.2.1 10 ((p1 * (10 : Int32)) + v51).toNatClampNeg).toInt64)) * r60) : Int64)).bind (fun v61 =>
 bd3 (l_M_reaction_119 200 w59 p1 p2 p3 p4 v61 (0 : Int32)) (fun v63 v64 w65 =>
 bd2 (f_M_determinant w65) (fun r69 w68 =>
 bd2 (f_M_fraction w68 v64 r69 v63) (fun r72 w71 =>
 some (r72, w71)))))))))
 else (some ((-4000000000000000000 : Int64), w48))))
 else (some ((-4000000000000000000 : Int64), w44)))))
 else (some ((-4000000000000000000 : Int64), w38))))
 else (some ((-4000000000000000000 : Int64), w34))))
set_option maxHeartbeats 4000000 in
set_option maxRecDepth 100000 in
theorem m_M_reaction (l : Launch) (D : va_G) (cy : Nat → ClassId) (ad : Nat → Nat) (sz : Nat) (z0 : gS) (p1 : Int32) (p2 : Int32) (p3 : Int32) (p4 : Int32) (r : Int64) (zz : gS) (hf : f_M_reaction z0 p1 p2 p3 p4 = some (r, zz)) : Met l y_M_reaction (Cond.code y_M_reaction c_M_reaction 9 (some .long) :: gt_ws) ({ frames := 6, cells := 0, slots := 0, locals := 270 }) (sPc D cl_all (gTy cy) nwM 16 ad (g2 cy ad z0) sz [.ref (ad 0), .int p1, .int p2, .int p3, .int p4]) (sQl D cl_all 16 ad (g2 cy ad z0) sz r (g2 cy ad zz)) 0 0 (va_A (wl 16 ad (g2 cy ad z0)) sz) := by
  refine Met.ofW (cc := c_M_reaction) (maxL := 9) (ret := (some .long)) (by decide) rfl ?_
  intro p e s m args below meth c s₁ B hml hv
  obtain ⟨rfl, hsz, hP, hK, hN, hD0⟩ := hv
  have hx := B.exec
  have hb := B.bytes
  have hr := B.returns
  have hts := atoms_spec (ws := (Cond.code y_M_reaction c_M_reaction 9 (some .long) :: gt_ws)) B.pre
  have ht : ∀ w ∈ gt_ws, w.before _ s = true := fun w h => hts w (List.mem_cons_of_mem _ h)
  have hown : s.vm.findClass RQ_M = some m.cls := findClass_of_methodNamed B.named
  have hlocks := B.notSynchronized
  subst hsz
  have hD1 := hD0.self (sz := s.heap.size)
  obtain ⟨A, hAe⟩ : ∃ A, A = va_A (wl 16 ad (g2 cy ad z0)) s.heap.size := ⟨_, rfl⟩
  rw [← hAe] at hD1
  have hD : ∀ g, va_D A (wl 16 ad g) := fun _ => wl_D hD1
  have hA : ∀ q : Nat, s.heap.size ≤ q → A q := fun q h => by rw [hAe]; exact Or.inr h
  have hS : va_S A s.heap s.heap [] := va_S.rf
  have hl := lv_entry ([.ref (ad 0), .int p1, .int p2, .int p3, .int p4]) (n := 9) (Nat.le_of_ble_eq_true rfl)
  rw [lg_entry_eq]
  generalize (lg_sl ([.ref (ad 0), .int p1, .int p2, .int p3, .int p4]) ++ List.replicate (9 - (lg_sl ([.ref (ad 0), .int p1, .int p2, .int p3, .int p4])).length) Slot.unset).toArray = ls at hl ⊢
  have hl : lv_has ls 9 [(0, .ref (ad 0)), (1, .int p1), (2, .int p2), (3, .int p3), (4, .int p4)] := hl
  have L_119 : ∀ (n : Nat) (z : gS) (x1 : Int32) (x2 : Int32) (x3 : Int32) (x4 : Int32) (x6 : Int64) (x8 : Int32) (y4 : Int32) (y6 : Int64) (z9 : gS), l_M_reaction_119 n z x1 x2 x3 x4 x6 x8 = some (y4, y6, z9) → ∀ (H : Heap) (locs : List Loc) (ls : Array Slot), va_P D cl_all (wl 16 ad (g2 cy ad z)) H → va_S A s.heap H locs → lv_has ls 9 [(0, .ref (ad 0)), (1, .int x1), (2, .int x2), (3, .int x3), (4, .int x4), (6, .long x6), (8, .int x8)] →
      (∀ (H : Heap) (locs : List Loc) (ls : Array Slot), va_P D cl_all (wl 16 ad (g2 cy ad z9)) H → va_S A s.heap H locs → lv_has ls 9 [(0, .ref (ad 0)), (4, .int y4), (6, .long y6)] → W p l e (headSpec (Cond.code y_M_reaction c_M_reaction 9 (some .long) :: gt_ws) ({ frames := 6, cells := 0, slots := 0, locals := 270 })).room s m ([.ref (ad 0), .int p1, .int p2, .int p3, .int p4]).toArray below meth c H locs 0 0 (MQ below (sQl D cl_all 16 ad (g2 cy ad z0) s.heap.size r (g2 cy ad zz)) ([.ref (ad 0), .int p1, .int p2, .int p3, .int p4]).toArray s 0 0 (va_A (wl 16 ad (g2 cy ad z0)) s.heap.size)) (F0 m 208 ls [])) →
      W p l e (headSpec (Cond.code y_M_reaction c_M_reaction 9 (some .long) :: gt_ws) ({ frames := 6, cells := 0, slots := 0, locals := 270 })).room s m ([.ref (ad 0), .int p1, .int p2, .int p3, .int p4]).toArray below meth c H locs 0 0 (MQ below (sQl D cl_all 16 ad (g2 cy ad z0) s.heap.size r (g2 cy ad zz)) ([.ref (ad 0), .int p1, .int p2, .int p3, .int p4]).toArray s 0 0 (va_A (wl 16 ad (g2 cy ad z0)) s.heap.size)) (F0 m 119 ls []) := by
    intro n
    induction n with
    | zero => intro z x1 x2 x3 x4 x6 x8 y4 y6 z9 hf; rw [l_M_reaction_119] at hf; cases hf
    | succ n ih =>
      intro z x1 x2 x3 x4 x6 x8 y4 y6 z9 hf H locs ls hP hS hl k_0
      rw [l_M_reaction_119] at hf
      refine lv_iload hx hb d_M_reaction_119 (lv_at hl 6 rfl) ?_
      refine lv_aload_n hx hb d_M_reaction_121 rfl (lv_at hl 0 rfl) ?_
      refine wx_get (v := .int (z.1 0)) (C := RQ_M) (T := FQ_M) (N := 21) hx hb ht IQ_M hown hK hP 0 (by decide) (e_g2_0 cy ad _) rfl 6 (by decide) (ht _ kw_534) (fun _ h9 => h9) rfl d_M_reaction_122 ?_
      refine lv_icmp_ge (tgt := 208) hx hb d_M_reaction_125 (by decide) (fun c1 => ?_) (fun c1 => ?_)
      ·
        have hf := op_pos hf c1
        cases hf
        exact k_0 _ _ _ hP hS (lv_sub hl [0, 4, 5] rfl)
      ·
        have hf := op_neg hf c1
        refine lv_aload_n hx hb d_M_reaction_128 rfl (lv_at hl 0 rfl) ?_
        refine wx_get (v := .ref (ad 4)) (C := RQ_M) (T := FQ_M) (N := 21) hx hb ht IQ_M hown hK hP 0 (by decide) (e_g2_0 cy ad _) rfl 3 (by decide) (ht _ kw_531) (fun _ h9 => h9) rfl d_M_reaction_129 ?_
        refine lv_iload hx hb d_M_reaction_132 (lv_at hl 6 rfl) ?_
        obtain ⟨h2, hf⟩ := op_chk hf
        refine wx_iald hx hb hK hP 4 (by decide) (by decide) 10 rfl h2 d_M_reaction_134 ?_
        refine lv_iload_n hx hb d_M_reaction_135 rfl (lv_at hl 2 rfl) ?_
        refine lv_icmp_ne (tgt := 165) hx hb d_M_reaction_136 (by decide) (fun c3 => ?_) (fun c3 => ?_)
        ·
          have hf := op_neg hf c3
          refine lv_aload_n hx hb d_M_reaction_165 rfl (lv_at hl 0 rfl) ?_
          refine wx_get (v := .ref (ad 5)) (C := RQ_M) (T := FQ_M) (N := 21) hx hb ht IQ_M hown hK hP 0 (by decide) (e_g2_0 cy ad _) rfl 4 (by decide) (ht _ kw_532) (fun _ h9 => h9) rfl d_M_reaction_166 ?_
          refine lv_iload hx hb d_M_reaction_169 (lv_at hl 6 rfl) ?_
          obtain ⟨h4, hf⟩ := op_chk hf
          refine wx_iald hx hb hK hP 5 (by decide) (by decide) 10 rfl h4 d_M_reaction_171 ?_
          refine lv_iload_n hx hb d_M_reaction_172 rfl (lv_at hl 2 rfl) ?_
          refine lv_icmp_ne (tgt := 202) hx hb d_M_reaction_173 (by decide) (fun c5 => ?_) (fun c5 => ?_)
          ·
            have hf := op_neg hf c5
            refine lv_iinc (v := x8 + (1 : Int32)) (lv' := [(8, .int (x8 + (1 : Int32))), (0, .ref (ad 0)), (1, .int x1), (2, .int x2), (3, .int x3), (4, .int x4), (6, .long x6)]) hx hb d_M_reaction_202 hl (k := 6) rfl rfl (by decide) rfl (fun ls hl => ?_)
            refine lv_goto (tgt := 119) hx hb d_M_reaction_205 (by decide) ?_
            exact ih _ _ _ _ _ _ _ _ _ _ hf _ _ _ hP hS (lv_sub hl [1, 2, 3, 4, 5, 6, 0] rfl) k_0
          ·
            have hf := op_pos hf c5
            refine lv_lload hx hb d_M_reaction_176 (lv_at hl 5 rfl) ?_
            refine lv_aload_n hx hb d_M_reaction_178 rfl (lv_at hl 0 rfl) ?_
            refine lv_iload hx hb d_M_reaction_179 (lv_at hl 6 rfl) ?_
            refine lv_iload_n hx hb d_M_reaction_181 rfl (lv_at hl 3 rfl) ?_
            obtain ⟨r8, w7, hc6, hf⟩ := op_b2 hf
            refine wx_fi (wx_rV (As := [.int x8, .int x3]) (rest := [.long x6]) ⟨hx, hb, hml, hown, ht⟩ (m_M_way l D cy ad _ z x8 x3 _ _ hc6) ⟨callB_of 2 ht (gt_in (fun _ h9 => h9) kw_659) rfl rfl rfl (ht _ kw_52) (ht _ kw_656) q_M_way ⟨Nat.le_of_ble_eq_true rfl, Nat.le_of_ble_eq_true rfl⟩, ht _ kw_658, ht _ kw_33⟩ nwM_ok hN hK hP (hD _) (by decide) (e_g2_0 cy ad _) rfl rfl hl.1 rfl (Nat.le_of_ble_eq_true rfl) d_M_reaction_182 ⟨Nat.zero_le _, Nat.zero_le _⟩) (hD _) hS hA (fun H locs hP hS => ?_)
            refine lv_i2l hx hb d_M_reaction_185 rfl ?_
            refine lv_aload_n hx hb d_M_reaction_186 rfl (lv_at hl 0 rfl) ?_
            refine lv_iconst (v := 1) hx hb d_M_reaction_187 (by decide) ?_
            refine lv_bipush (v := 8) hx hb d_M_reaction_188 (by decide) ?_
            refine lv_iload_n hx hb d_M_reaction_190 rfl (lv_at hl 1 rfl) ?_
            refine lv_imul hx hb d_M_reaction_191 ?_
            refine lv_ishl hx hb d_M_reaction_192 ?_
            refine lv_iload hx hb d_M_reaction_193 (lv_at hl 6 rfl) ?_
            obtain ⟨r11, w10, hc9, hf⟩ := op_b2 hf
            refine wx_fl (wx_rV (As := [.int ((1 : Int32) <<< (((8 : Int32) * x1) &&& 31)), .int x8]) (rest := [.long r8.toInt64, .long x6]) ⟨hx, hb, hml, hown, ht⟩ (m_M_pull l D cy ad _ w7 ((1 : Int32) <<< (((8 : Int32) * x1) &&& 31)) x8 _ _ hc9) ⟨callB_of 2 ht (gt_in (fun _ h9 => h9) kw_728) rfl rfl rfl (ht _ kw_52) (ht _ kw_725) q_M_pull ⟨Nat.le_of_ble_eq_true rfl, Nat.le_of_ble_eq_true rfl⟩, ht _ kw_727, ht _ kw_44⟩ nwM_ok hN hK hP (hD _) (by decide) (e_g2_0 cy ad _) rfl rfl hl.1 rfl (Nat.le_of_ble_eq_true rfl) d_M_reaction_195 ⟨Nat.zero_le _, Nat.zero_le _⟩) (hD _) hS hA (fun H locs hP hS => ?_)
            refine lv_lmul hx hb d_M_reaction_198 ?_
            refine lv_ladd hx hb d_M_reaction_199 ?_
            obtain ⟨v12, h13, hf⟩ := op_let hf
            refine sw_l h13 ?_
            refine lv_lstore (lv' := [(6, .long v12), (0, .ref (ad 0)), (1, .int x1), (2, .int x2), (3, .int x3), (4, .int x4), (8, .int x8)]) hx hb d_M_reaction_200 hl (by decide) rfl (fun ls hl => ?_)
            refine lv_iinc (v := x8 + (1 : Int32)) (lv' := [(8, .int (x8 + (1 : Int32))), (6, .long v12), (0, .ref (ad 0)), (1, .int x1), (2, .int x2), (3, .int x3), (4, .int x4)]) hx hb d_M_reaction_202 hl (k := 6) rfl rfl (by decide) rfl (fun ls hl => ?_)
            refine lv_goto (tgt := 119) hx hb d_M_reaction_205 (by decide) ?_
            exact ih _ _ _ _ _ _ _ _ _ _ hf _ _ _ hP hS (lv_sub hl [2, 3, 4, 5, 6, 1, 0] rfl) k_0
        ·
          have hf := op_pos hf c3
          refine lv_lload hx hb d_M_reaction_139 (lv_at hl 5 rfl) ?_
          refine lv_aload_n hx hb d_M_reaction_141 rfl (lv_at hl 0 rfl) ?_
          refine lv_iload hx hb d_M_reaction_142 (lv_at hl 6 rfl) ?_
          refine lv_iload_n hx hb d_M_reaction_144 rfl (lv_at hl 3 rfl) ?_
          obtain ⟨r16, w15, hc14, hf⟩ := op_b2 hf
          refine wx_fi (wx_rV (As := [.int x8, .int x3]) (rest := [.long x6]) ⟨hx, hb, hml, hown, ht⟩ (m_M_way l D cy ad _ z x8 x3 _ _ hc14) ⟨callB_of 2 ht (gt_in (fun _ h9 => h9) kw_659) rfl rfl rfl (ht _ kw_52) (ht _ kw_656) q_M_way ⟨Nat.le_of_ble_eq_true rfl, Nat.le_of_ble_eq_true rfl⟩, ht _ kw_658, ht _ kw_33⟩ nwM_ok hN hK hP (hD _) (by decide) (e_g2_0 cy ad _) rfl rfl hl.1 rfl (Nat.le_of_ble_eq_true rfl) d_M_reaction_145 ⟨Nat.zero_le _, Nat.zero_le _⟩) (hD _) hS hA (fun H locs hP hS => ?_)
          refine lv_i2l hx hb d_M_reaction_148 rfl ?_
          refine lv_aload_n hx hb d_M_reaction_149 rfl (lv_at hl 0 rfl) ?_
          refine lv_iconst (v := 1) hx hb d_M_reaction_150 (by decide) ?_
          refine lv_bipush (v := 8) hx hb d_M_reaction_151 (by decide) ?_
          refine lv_iload_n hx hb d_M_reaction_153 rfl (lv_at hl 1 rfl) ?_
          refine lv_imul hx hb d_M_reaction_154 ?_
          refine lv_ishl hx hb d_M_reaction_155 ?_
          refine lv_iload hx hb d_M_reaction_156 (lv_at hl 6 rfl) ?_
          obtain ⟨r19, w18, hc17, hf⟩ := op_b2 hf
          refine wx_fl (wx_rV (As := [.int ((1 : Int32) <<< (((8 : Int32) * x1) &&& 31)), .int x8]) (rest := [.long r16.toInt64, .long x6]) ⟨hx, hb, hml, hown, ht⟩ (m_M_pull l D cy ad _ w15 ((1 : Int32) <<< (((8 : Int32) * x1) &&& 31)) x8 _ _ hc17) ⟨callB_of 2 ht (gt_in (fun _ h9 => h9) kw_728) rfl rfl rfl (ht _ kw_52) (ht _ kw_725) q_M_pull ⟨Nat.le_of_ble_eq_true rfl, Nat.le_of_ble_eq_true rfl⟩, ht _ kw_727, ht _ kw_44⟩ nwM_ok hN hK hP (hD _) (by decide) (e_g2_0 cy ad _) rfl rfl hl.1 rfl (Nat.le_of_ble_eq_true rfl) d_M_reaction_158 ⟨Nat.zero_le _, Nat.zero_le _⟩) (hD _) hS hA (fun H locs hP hS => ?_)
          refine lv_lmul hx hb d_M_reaction_161 ?_
          refine lv_lsub hx hb d_M_reaction_162 ?_
          obtain ⟨v20, h21, hf⟩ := op_let hf
          refine sw_l h21 ?_
          refine lv_lstore (lv' := [(6, .long v20), (0, .ref (ad 0)), (1, .int x1), (2, .int x2), (3, .int x3), (4, .int x4), (8, .int x8)]) hx hb d_M_reaction_163 hl (by decide) rfl (fun ls hl => ?_)
          refine lv_aload_n hx hb d_M_reaction_165 rfl (lv_at hl 1 rfl) ?_
          refine wx_get (v := .ref (ad 5)) (C := RQ_M) (T := FQ_M) (N := 21) hx hb ht IQ_M hown hK hP 0 (by decide) (e_g2_0 cy ad _) rfl 4 (by decide) (ht _ kw_532) (fun _ h9 => h9) rfl d_M_reaction_166 ?_
          refine lv_iload hx hb d_M_reaction_169 (lv_at hl 6 rfl) ?_
          obtain ⟨h22, hf⟩ := op_chk hf
          refine wx_iald hx hb hK hP 5 (by decide) (by decide) 10 rfl h22 d_M_reaction_171 ?_
          refine lv_iload_n hx hb d_M_reaction_172 rfl (lv_at hl 3 rfl) ?_
          refine lv_icmp_ne (tgt := 202) hx hb d_M_reaction_173 (by decide) (fun c23 => ?_) (fun c23 => ?_)
          ·
            have hf := op_neg hf c23
            refine lv_iinc (v := x8 + (1 : Int32)) (lv' := [(8, .int (x8 + (1 : Int32))), (6, .long v20), (0, .ref (ad 0)), (1, .int x1), (2, .int x2), (3, .int x3), (4, .int x4)]) hx hb d_M_reaction_202 hl (k := 6) rfl rfl (by decide) rfl (fun ls hl => ?_)
            refine lv_goto (tgt := 119) hx hb d_M_reaction_205 (by decide) ?_
            exact ih _ _ _ _ _ _ _ _ _ _ hf _ _ _ hP hS (lv_sub hl [2, 3, 4, 5, 6, 1, 0] rfl) k_0
          ·
            have hf := op_pos hf c23
            refine lv_lload hx hb d_M_reaction_176 (lv_at hl 0 rfl) ?_
            refine lv_aload_n hx hb d_M_reaction_178 rfl (lv_at hl 1 rfl) ?_
            refine lv_iload hx hb d_M_reaction_179 (lv_at hl 6 rfl) ?_
            refine lv_iload_n hx hb d_M_reaction_181 rfl (lv_at hl 4 rfl) ?_
            obtain ⟨r26, w25, hc24, hf⟩ := op_b2 hf
            refine wx_fi (wx_rV (As := [.int x8, .int x3]) (rest := [.long v20]) ⟨hx, hb, hml, hown, ht⟩ (m_M_way l D cy ad _ w18 x8 x3 _ _ hc24) ⟨callB_of 2 ht (gt_in (fun _ h9 => h9) kw_659) rfl rfl rfl (ht _ kw_52) (ht _ kw_656) q_M_way ⟨Nat.le_of_ble_eq_true rfl, Nat.le_of_ble_eq_true rfl⟩, ht _ kw_658, ht _ kw_33⟩ nwM_ok hN hK hP (hD _) (by decide) (e_g2_0 cy ad _) rfl rfl hl.1 rfl (Nat.le_of_ble_eq_true rfl) d_M_reaction_182 ⟨Nat.zero_le _, Nat.zero_le _⟩) (hD _) hS hA (fun H locs hP hS => ?_)
            refine lv_i2l hx hb d_M_reaction_185 rfl ?_
            refine lv_aload_n hx hb d_M_reaction_186 rfl (lv_at hl 1 rfl) ?_
            refine lv_iconst (v := 1) hx hb d_M_reaction_187 (by decide) ?_
            refine lv_bipush (v := 8) hx hb d_M_reaction_188 (by decide) ?_
            refine lv_iload_n hx hb d_M_reaction_190 rfl (lv_at hl 2 rfl) ?_
            refine lv_imul hx hb d_M_reaction_191 ?_
            refine lv_ishl hx hb d_M_reaction_192 ?_
            refine lv_iload hx hb d_M_reaction_193 (lv_at hl 6 rfl) ?_
            obtain ⟨r29, w28, hc27, hf⟩ := op_b2 hf
            refine wx_fl (wx_rV (As := [.int ((1 : Int32) <<< (((8 : Int32) * x1) &&& 31)), .int x8]) (rest := [.long r26.toInt64, .long v20]) ⟨hx, hb, hml, hown, ht⟩ (m_M_pull l D cy ad _ w25 ((1 : Int32) <<< (((8 : Int32) * x1) &&& 31)) x8 _ _ hc27) ⟨callB_of 2 ht (gt_in (fun _ h9 => h9) kw_728) rfl rfl rfl (ht _ kw_52) (ht _ kw_725) q_M_pull ⟨Nat.le_of_ble_eq_true rfl, Nat.le_of_ble_eq_true rfl⟩, ht _ kw_727, ht _ kw_44⟩ nwM_ok hN hK hP (hD _) (by decide) (e_g2_0 cy ad _) rfl rfl hl.1 rfl (Nat.le_of_ble_eq_true rfl) d_M_reaction_195 ⟨Nat.zero_le _, Nat.zero_le _⟩) (hD _) hS hA (fun H locs hP hS => ?_)
            refine lv_lmul hx hb d_M_reaction_198 ?_
            refine lv_ladd hx hb d_M_reaction_199 ?_
            obtain ⟨v30, h31, hf⟩ := op_let hf
            refine sw_l h31 ?_
            refine lv_lstore (lv' := [(6, .long v30), (0, .ref (ad 0)), (1, .int x1), (2, .int x2), (3, .int x3), (4, .int x4), (8, .int x8)]) hx hb d_M_reaction_200 hl (by decide) rfl (fun ls hl => ?_)
            refine lv_iinc (v := x8 + (1 : Int32)) (lv' := [(8, .int (x8 + (1 : Int32))), (6, .long v30), (0, .ref (ad 0)), (1, .int x1), (2, .int x2), (3, .int x3), (4, .int x4)]) hx hb d_M_reaction_202 hl (k := 6) rfl rfl (by decide) rfl (fun ls hl => ?_)
            refine lv_goto (tgt := 119) hx hb d_M_reaction_205 (by decide) ?_
            exact ih _ _ _ _ _ _ _ _ _ _ hf _ _ _ hP hS (lv_sub hl [2, 3, 4, 5, 6, 1, 0] rfl) k_0
  unfold f_M_reaction at hf
  refine lv_aload_n hx hb d_M_reaction_0 rfl (lv_at hl 0 rfl) ?_
  refine wx_get (v := .int (z0.1 1)) (C := RQ_M) (T := FQ_M) (N := 21) hx hb ht IQ_M hown hK hP 0 (by decide) (e_g2_0 cy ad _) rfl 11 (by decide) (ht _ kw_539) (fun _ h9 => h9) rfl d_M_reaction_1 ?_
  refine lv_if_eq (tgt := 53) hx hb d_M_reaction_4 (by decide) (fun c32 => ?_) (fun c32 => ?_)
  ·
    have hf := op_pos hf c32
    refine lv_ldc2 hx hb hown (ht _ kw_695) d_M_reaction_53 ?_
    obtain ⟨hv9, rfl⟩ := op_inj hf
    exact wx_lret hx hb hr hlocks hAe hP hS hv9 d_M_reaction_56
  ·
    have hf := op_neg hf c32
    refine lv_aload_n hx hb d_M_reaction_7 rfl (lv_at hl 0 rfl) ?_
    refine lv_iload_n hx hb d_M_reaction_8 rfl (lv_at hl 1 rfl) ?_
    refine lv_iconst (v := 3) hx hb d_M_reaction_9 (by decide) ?_
    obtain ⟨r35, w34, hc33, hf⟩ := op_b2 hf
    refine wx_fi (wx_rV (As := [.int p1, .int (3 : Int32)]) (rest := []) ⟨hx, hb, hml, hown, ht⟩ (m_M_off l D cy ad _ z0 p1 (3 : Int32) _ _ hc33) ⟨callB_of 2 ht (gt_in (fun _ h9 => h9) kw_599) rfl rfl rfl (ht _ kw_52) (ht _ kw_596) q_M_off ⟨Nat.le_of_ble_eq_true rfl, Nat.le_of_ble_eq_true rfl⟩, ht _ kw_598, ht _ kw_24⟩ nwM_ok hN hK hP (hD _) (by decide) (e_g2_0 cy ad _) rfl rfl hl.1 rfl (Nat.le_of_ble_eq_true rfl) d_M_reaction_10 ⟨Nat.zero_le _, Nat.zero_le _⟩) (hD _) hS hA (fun H locs hP hS => ?_)
    refine lv_if_ne (tgt := 53) hx hb d_M_reaction_13 (by decide) (fun c36 => ?_) (fun c36 => ?_)
    ·
      have hf := op_neg hf c36
      refine lv_ldc2 hx hb hown (ht _ kw_695) d_M_reaction_53 ?_
      obtain ⟨hv9, rfl⟩ := op_inj hf
      exact wx_lret hx hb hr hlocks hAe hP hS hv9 d_M_reaction_56
    ·
      have hf := op_pos hf c36
      refine lv_aload_n hx hb d_M_reaction_16 rfl (lv_at hl 0 rfl) ?_
      refine lv_iload_n hx hb d_M_reaction_17 rfl (lv_at hl 2 rfl) ?_
      refine lv_iconst (v := 4) hx hb d_M_reaction_18 (by decide) ?_
      obtain ⟨r39, w38, hc37, hf⟩ := op_b2 hf
      refine wx_fi (wx_rV (As := [.int p2, .int (4 : Int32)]) (rest := []) ⟨hx, hb, hml, hown, ht⟩ (m_M_off l D cy ad _ w34 p2 (4 : Int32) _ _ hc37) ⟨callB_of 2 ht (gt_in (fun _ h9 => h9) kw_599) rfl rfl rfl (ht _ kw_52) (ht _ kw_596) q_M_off ⟨Nat.le_of_ble_eq_true rfl, Nat.le_of_ble_eq_true rfl⟩, ht _ kw_598, ht _ kw_24⟩ nwM_ok hN hK hP (hD _) (by decide) (e_g2_0 cy ad _) rfl rfl hl.1 rfl (Nat.le_of_ble_eq_true rfl) d_M_reaction_19 ⟨Nat.zero_le _, Nat.zero_le _⟩) (hD _) hS hA (fun H locs hP hS => ?_)
      refine lv_if_ne (tgt := 53) hx hb d_M_reaction_22 (by decide) (fun c40 => ?_) (fun c40 => ?_)
      ·
        have hf := op_neg hf c40
        refine lv_ldc2 hx hb hown (ht _ kw_695) d_M_reaction_53 ?_
        obtain ⟨hv9, rfl⟩ := op_inj hf
        exact wx_lret hx hb hr hlocks hAe hP hS hv9 d_M_reaction_56
      ·
        have hf := op_pos hf c40
        refine lv_aload_n hx hb d_M_reaction_25 rfl (lv_at hl 0 rfl) ?_
        refine wx_get (v := .ref (ad 1)) (C := RQ_M) (T := FQ_M) (N := 21) hx hb ht IQ_M hown hK hP 0 (by decide) (e_g2_0 cy ad _) rfl 0 (by decide) (ht _ kw_528) (fun _ h9 => h9) rfl d_M_reaction_26 ?_
        refine lv_iload_n hx hb d_M_reaction_29 rfl (lv_at hl 2 rfl) ?_
        obtain ⟨h41, hf⟩ := op_chk hf
        refine wx_zald hx hb hK hP 1 (by decide) (by decide) 5 rfl h41 d_M_reaction_30 ?_
        refine lv_if_eq (tgt := 53) hx hb d_M_reaction_31 (by decide) (fun c42 => ?_) (fun c42 => ?_)
        ·
          have hf := op_pos hf c42
          refine lv_ldc2 hx hb hown (ht _ kw_695) d_M_reaction_53 ?_
          obtain ⟨hv9, rfl⟩ := op_inj hf
          exact wx_lret hx hb hr hlocks hAe hP hS hv9 d_M_reaction_56
        ·
          have hf := op_neg hf c42
          refine lv_aload_n hx hb d_M_reaction_34 rfl (lv_at hl 0 rfl) ?_
          refine lv_iload_n hx hb d_M_reaction_35 rfl (lv_at hl 3 rfl) ?_
          refine lv_iconst (v := 1) hx hb d_M_reaction_36 (by decide) ?_
          obtain ⟨r45, w44, hc43, hf⟩ := op_b2 hf
          refine wx_fi (wx_rV (As := [.int p3, .int (1 : Int32)]) (rest := []) ⟨hx, hb, hml, hown, ht⟩ (m_M_off l D cy ad _ w38 p3 (1 : Int32) _ _ hc43) ⟨callB_of 2 ht (gt_in (fun _ h9 => h9) kw_599) rfl rfl rfl (ht _ kw_52) (ht _ kw_596) q_M_off ⟨Nat.le_of_ble_eq_true rfl, Nat.le_of_ble_eq_true rfl⟩, ht _ kw_598, ht _ kw_24⟩ nwM_ok hN hK hP (hD _) (by decide) (e_g2_0 cy ad _) rfl rfl hl.1 rfl (Nat.le_of_ble_eq_true rfl) d_M_reaction_37 ⟨Nat.zero_le _, Nat.zero_le _⟩) (hD _) hS hA (fun H locs hP hS => ?_)
          refine lv_if_ne (tgt := 53) hx hb d_M_reaction_40 (by decide) (fun c46 => ?_) (fun c46 => ?_)
          ·
            have hf := op_neg hf c46
            refine lv_ldc2 hx hb hown (ht _ kw_695) d_M_reaction_53 ?_
            obtain ⟨hv9, rfl⟩ := op_inj hf
            exact wx_lret hx hb hr hlocks hAe hP hS hv9 d_M_reaction_56
          ·
            have hf := op_pos hf c46
            refine lv_aload_n hx hb d_M_reaction_43 rfl (lv_at hl 0 rfl) ?_
            refine lv_iload hx hb d_M_reaction_44 (lv_at hl 4 rfl) ?_
            refine lv_iconst (v := 1) hx hb d_M_reaction_46 (by decide) ?_
            obtain ⟨r49, w48, hc47, hf⟩ := op_b2 hf
            refine wx_fi (wx_rV (As := [.int p4, .int (1 : Int32)]) (rest := []) ⟨hx, hb, hml, hown, ht⟩ (m_M_off l D cy ad _ w44 p4 (1 : Int32) _ _ hc47) ⟨callB_of 2 ht (gt_in (fun _ h9 => h9) kw_599) rfl rfl rfl (ht _ kw_52) (ht _ kw_596) q_M_off ⟨Nat.le_of_ble_eq_true rfl, Nat.le_of_ble_eq_true rfl⟩, ht _ kw_598, ht _ kw_24⟩ nwM_ok hN hK hP (hD _) (by decide) (e_g2_0 cy ad _) rfl rfl hl.1 rfl (Nat.le_of_ble_eq_true rfl) d_M_reaction_47 ⟨Nat.zero_le _, Nat.zero_le _⟩) (hD _) hS hA (fun H locs hP hS => ?_)
            refine lv_if_eq (tgt := 57) hx hb d_M_reaction_50 (by decide) (fun c50 => ?_) (fun c50 => ?_)
            ·
              have hf := op_pos hf c50
              refine lv_iload_n hx hb d_M_reaction_57 rfl (lv_at hl 2 rfl) ?_
              refine lv_iconst (v := 2) hx hb d_M_reaction_58 (by decide) ?_
              refine lv_imul hx hb d_M_reaction_59 ?_
              refine lv_iload_n hx hb d_M_reaction_60 rfl (lv_at hl 3 rfl) ?_
              refine lv_iadd hx hb d_M_reaction_61 ?_
              obtain ⟨v51, h52, hf⟩ := op_let hf
              refine sw_i h52 ?_
              refine lv_istore (lv' := [(5, .int v51), (0, .ref (ad 0)), (1, .int p1), (2, .int p2), (3, .int p3), (4, .int p4)]) hx hb d_M_reaction_62 hl (by decide) rfl (fun ls hl => ?_)
              refine lv_aload_n hx hb d_M_reaction_64 rfl (lv_at hl 1 rfl) ?_
              refine wx_get (v := .ref (ad 7)) (C := RQ_M) (T := FQ_M) (N := 21) hx hb ht IQ_M hown hK hP 0 (by decide) (e_g2_0 cy ad _) rfl 7 (by decide) (ht _ kw_535) (fun _ h9 => h9) rfl d_M_reaction_65 ?_
              refine lv_iload hx hb d_M_reaction_68 (lv_at hl 0 rfl) ?_
              obtain ⟨h53, hf⟩ := op_chk hf
              refine wx_zald hx hb hK hP 7 (by decide) (by decide) 10 rfl h53 d_M_reaction_70 ?_
              refine lv_if_ne (tgt := 78) hx hb d_M_reaction_71 (by decide) (fun c54 => ?_) (fun c54 => ?_)
              ·
                have hf := op_neg hf c54
                refine lv_aload_n hx hb d_M_reaction_78 rfl (lv_at hl 1 rfl) ?_
                refine wx_get (v := .ref (ad 9)) (C := RQ_M) (T := FQ_M) (N := 21) hx hb ht IQ_M hown hK hP 0 (by decide) (e_g2_0 cy ad _) rfl 9 (by decide) (ht _ kw_537) (fun _ h9 => h9) rfl d_M_reaction_79 ?_
                refine lv_iload hx hb d_M_reaction_82 (lv_at hl 0 rfl) ?_
                obtain ⟨h55, hf⟩ := op_chk hf
                refine wx_iald hx hb hK hP 9 (by decide) (by decide) 10 rfl h55 d_M_reaction_84 ?_
                refine lv_i2l hx hb d_M_reaction_85 rfl ?_
                refine lv_aload_n hx hb d_M_reaction_86 rfl (lv_at hl 1 rfl) ?_
                refine wx_get (v := .ref (ad 8)) (C := RQ_M) (T := FQ_M) (N := 21) hx hb ht IQ_M hown hK hP 0 (by decide) (e_g2_0 cy ad _) rfl 8 (by decide) (ht _ kw_536) (fun _ h9 => h9) rfl d_M_reaction_87 ?_
                refine lv_iload hx hb d_M_reaction_90 (lv_at hl 0 rfl) ?_
                obtain ⟨h56, hf⟩ := op_chk hf
                refine wx_iald hx hb hK hP 8 (by decide) (by decide) 10 rfl h56 d_M_reaction_92 ?_
                refine lv_i2l hx hb d_M_reaction_93 rfl ?_
                refine lv_lmul hx hb d_M_reaction_94 ?_
                refine lv_aload_n hx hb d_M_reaction_95 rfl (lv_at hl 1 rfl) ?_
                refine wx_get (v := .ref (ad 10)) (C := RQ_M) (T := FQ_M) (N := 21) hx hb ht IQ_M hown hK hP 0 (by decide) (e_g2_0 cy ad _) rfl 10 (by decide) (ht _ kw_538) (fun _ h9 => h9) rfl d_M_reaction_96 ?_
                refine lv_iload_n hx hb d_M_reaction_99 rfl (lv_at hl 2 rfl) ?_
                refine lv_bipush (v := 10) hx hb d_M_reaction_100 (by decide) ?_
                refine lv_imul hx hb d_M_reaction_102 ?_
                refine lv_iload hx hb d_M_reaction_103 (lv_at hl 0 rfl) ?_
                refine lv_iadd hx hb d_M_reaction_105 ?_
                obtain ⟨h57, hf⟩ := op_chk hf
                refine wx_iald hx hb hK hP 10 (by decide) (by decide) 40 rfl h57 d_M_reaction_106 ?_
                refine lv_i2l hx hb d_M_reaction_107 rfl ?_
                refine lv_lsub hx hb d_M_reaction_108 ?_
                refine lv_aload_n hx hb d_M_reaction_109 rfl (lv_at hl 1 rfl) ?_
                obtain ⟨r60, w59, hc58, hf⟩ := op_b2 hf
                refine wx_fl (wx_rV (As := []) (rest := [.long ((((w48.2.2.1 9 v51.toNatClampNeg).toInt64) * ((w48.2.2.1 8 v51.toNatClampNeg).toInt64)) - ((w48.2.2.1 10 ((p1 * (10 : Int32)) + v51).toNatClampNeg).toInt64))]) ⟨hx, hb, hml, hown, ht⟩ (m_M_determinant l D cy ad _ w48 _ _ hc58) ⟨callB_of 0 ht (gt_in (fun _ h9 => h9) kw_715) rfl rfl rfl (ht _ kw_52) (ht _ kw_712) q_M_determinant ⟨Nat.le_of_ble_eq_true rfl, Nat.le_of_ble_eq_true rfl⟩, ht _ kw_713, ht _ kw_714⟩ nwM_ok hN hK hP (hD _) (by decide) (e_g2_0 cy ad _) rfl rfl hl.1 rfl (Nat.le_of_ble_eq_true rfl) d_M_reaction_110 ⟨Nat.zero_le _, Nat.zero_le _⟩) (hD _) hS hA (fun H locs hP hS => ?_)
                refine lv_lmul hx hb d_M_reaction_113 ?_
                obtain ⟨v61, h62, hf⟩ := op_let hf
                refine sw_l h62 ?_
                refine lv_lstore (lv' := [(6, .long v61), (5, .int v51), (0, .ref (ad 0)), (1, .int p1), (2, .int p2), (3, .int p3), (4, .int p4)]) hx hb d_M_reaction_114 hl (by decide) rfl (fun ls hl => ?_)
                refine lv_iconst (v := 0) hx hb d_M_reaction_116 (by decide) ?_
                refine lv_istore (lv' := [(8, .int (0 : Int32)), (6, .long v61), (5, .int v51), (0, .ref (ad 0)), (1, .int p1), (2, .int p2), (3, .int p3), (4, .int p4)]) hx hb d_M_reaction_117 hl (by decide) rfl (fun ls hl => ?_)
                obtain ⟨v63, v64, w65, hc66, hf⟩ := op_b3 hf
                refine L_119 _ _ _ _ _ _ _ _ _ _ _ hc66 _ _ _ hP hS (lv_sub hl [3, 4, 5, 6, 7, 1, 0] rfl) (fun H locs ls hP hS hl => ?_)
                refine lv_aload_n hx hb d_M_reaction_208 rfl (lv_at hl 0 rfl) ?_
                refine lv_lload hx hb d_M_reaction_209 (lv_at hl 2 rfl) ?_
                refine lv_aload_n hx hb d_M_reaction_211 rfl (lv_at hl 0 rfl) ?_
                obtain ⟨r69, w68, hc67, hf⟩ := op_b2 hf
                refine wx_fl (wx_rV (As := []) (rest := [.long v64, .ref (ad 0)]) ⟨hx, hb, hml, hown, ht⟩ (m_M_determinant l D cy ad _ w65 _ _ hc67) ⟨callB_of 0 ht (gt_in (fun _ h9 => h9) kw_715) rfl rfl rfl (ht _ kw_52) (ht _ kw_712) q_M_determinant ⟨Nat.le_of_ble_eq_true rfl, Nat.le_of_ble_eq_true rfl⟩, ht _ kw_713, ht _ kw_714⟩ nwM_ok hN hK hP (hD _) (by decide) (e_g2_0 cy ad _) rfl rfl hl.1 rfl (Nat.le_of_ble_eq_true rfl) d_M_reaction_212 ⟨Nat.zero_le _, Nat.zero_le _⟩) (hD _) hS hA (fun H locs hP hS => ?_)
                refine lv_iload hx hb d_M_reaction_215 (lv_at hl 1 rfl) ?_
                obtain ⟨r72, w71, hc70, hf⟩ := op_b2 hf
                refine wx_fl (wx_rV (As := [.long v64, .long r69, .int v63]) (rest := []) ⟨hx, hb, hml, hown, ht⟩ (m_M_fraction l D cy ad _ w68 v64 r69 v63 _ _ hc70) ⟨callB_of 3 ht (gt_in (fun _ h9 => h9) kw_719) rfl rfl rfl (ht _ kw_52) (ht _ kw_716) q_M_fraction ⟨Nat.le_of_ble_eq_true rfl, Nat.le_of_ble_eq_true rfl⟩, ht _ kw_718, ht _ kw_43⟩ nwM_ok hN hK hP (hD _) (by decide) (e_g2_0 cy ad _) rfl rfl hl.1 rfl (Nat.le_of_ble_eq_true rfl) d_M_reaction_217 ⟨Nat.zero_le _, Nat.zero_le _⟩) (hD _) hS hA (fun H locs hP hS => ?_)
                obtain ⟨hv9, rfl⟩ := op_inj hf
                exact wx_lret hx hb hr hlocks hAe hP hS hv9 d_M_reaction_220
              ·
                have hf := op_pos hf c54
                refine lv_ldc2 hx hb hown (ht _ kw_695) d_M_reaction_74 ?_
                obtain ⟨hv9, rfl⟩ := op_inj hf
                exact wx_lret hx hb hr hlocks hAe hP hS hv9 d_M_reaction_77
            ·
              have hf := op_neg hf c50
              refine lv_ldc2 hx hb hown (ht _ kw_695) d_M_reaction_53 ?_
              obtain ⟨hv9, rfl⟩ := op_inj hf
              exact wx_lret hx hb hr hlocks hAe hP hS hv9 d_M_reaction_56

def f_M_order (z0 : gS) (p1 : Int32) : Option (Int32 × gS) :=
 if (z0.1 1) = 0 then (some ((-1 : Int32), z0))
 else (if 0 ≤ p1 then (bd1 (f_M_makeOrder z0) (fun w4 =>
 if (w4.1 2) ≤ p1 then (some ((-1 : Int32), w4))
 else (if p1 < 0 ∨ 5 ≤ p1.toNatClampNeg then none else
 some ((w4.2.2.1 11 p1.toNatClampNeg), w4))))
 else (some ((-1 : Int32), z0)))
set_option maxHeartbeats 4000000 in
set_option maxRecDepth 100000 in
theorem m_M_order (l : Launch) (D : va_G) (cy : Nat → ClassId) (ad : Nat → Nat) (sz : Nat) (z0 : gS) (p1 : Int32) (r : Int32) (zz : gS) (hf : f_M_order z0 p1 = some (r, zz)) : Met l y_M_order (Cond.code y_M_order c_M_order 2 (some .int) :: gt_ws) ({ frames := 4, cells := 0, slots := 0, locals := 180 }) (sPc D cl_all (gTy cy) nwM 16 ad (g2 cy ad z0) sz [.ref (ad 0), .int p1]) (sQi D cl_all 16 ad (g2 cy ad z0) sz r (g2 cy ad zz)) 0 0 (va_A (wl 16 ad (g2 cy ad z0)) sz) := by
  refine Met.ofW (cc := c_M_order) (maxL := 2) (ret := (some .int)) (by decide) rfl ?_
  intro p e s m args below meth c s₁ B hml hv
  obtain ⟨rfl, hsz, hP, hK, hN, hD0⟩ := hv
  have hx := B.exec
  have hb := B.bytes
  have hr := B.returns
  have hts := atoms_spec (ws := (Cond.code y_M_order c_M_order 2 (some .int) :: gt_ws)) B.pre
  have ht : ∀ w ∈ gt_ws, w.before _ s = true := fun w h => hts w (List.mem_cons_of_mem _ h)
  have hown : s.vm.findClass RQ_M = some m.cls := findClass_of_methodNamed B.named
  have hlocks := B.notSynchronized
  subst hsz
  have hD1 := hD0.self (sz := s.heap.size)
  obtain ⟨A, hAe⟩ : ∃ A, A = va_A (wl 16 ad (g2 cy ad z0)) s.heap.size := ⟨_, rfl⟩
  rw [← hAe] at hD1
  have hD : ∀ g, va_D A (wl 16 ad g) := fun _ => wl_D hD1
  have hA : ∀ q : Nat, s.heap.size ≤ q → A q := fun q h => by rw [hAe]; exact Or.inr h
  have hS : va_S A s.heap s.heap [] := va_S.rf
  have hl := lv_entry ([.ref (ad 0), .int p1]) (n := 2) (Nat.le_of_ble_eq_true rfl)
  rw [lg_entry_eq]
  generalize (lg_sl ([.ref (ad 0), .int p1]) ++ List.replicate (2 - (lg_sl ([.ref (ad 0), .int p1])).length) Slot.unset).toArray = ls at hl ⊢
  have hl : lv_has ls 2 [(0, .ref (ad 0)), (1, .int p1)] := hl
  unfold f_M_order at hf
  refine lv_aload_n hx hb d_M_order_0 rfl (lv_at hl 0 rfl) ?_
  refine wx_get (v := .int (z0.1 1)) (C := RQ_M) (T := FQ_M) (N := 21) hx hb ht IQ_M hown hK hP 0 (by decide) (e_g2_0 cy ad _) rfl 11 (by decide) (ht _ kw_539) (fun _ h9 => h9) rfl d_M_order_1 ?_
  refine lv_if_eq (tgt := 11) hx hb d_M_order_4 (by decide) (fun c1 => ?_) (fun c1 => ?_)
  ·
    have hf := op_pos hf c1
    refine lv_iconst (v := -1) hx hb d_M_order_11 (by decide) ?_
    obtain ⟨hv9, rfl⟩ := op_inj hf
    exact wx_iret hx hb hr hlocks hAe hP hS hv9 d_M_order_12
  ·
    have hf := op_neg hf c1
    refine lv_iload_n hx hb d_M_order_7 rfl (lv_at hl 1 rfl) ?_
    refine lv_if_ge (tgt := 13) hx hb d_M_order_8 (by decide) (fun c2 => ?_) (fun c2 => ?_)
    ·
      have hf := op_pos hf c2
      refine lv_aload_n hx hb d_M_order_13 rfl (lv_at hl 0 rfl) ?_
      obtain ⟨w4, hc3, hf⟩ := op_b1 hf
      refine wx_fv (wx_rV (As := []) (rest := []) ⟨hx, hb, hml, hown, ht⟩ (m_M_makeOrder l D cy ad _ z0 _ hc3) ⟨callB_of 0 ht (gt_in (fun _ h9 => h9) kw_627) rfl rfl rfl (ht _ kw_52) (ht _ kw_624) q_M_makeOrder ⟨Nat.le_of_ble_eq_true rfl, Nat.le_of_ble_eq_true rfl⟩, ht _ kw_626, ht _ kw_25⟩ nwM_ok hN hK hP (hD _) (by decide) (e_g2_0 cy ad _) rfl rfl hl.1 rfl (Nat.le_of_ble_eq_true rfl) d_M_order_14 ⟨Nat.zero_le _, Nat.zero_le _⟩) (hD _) hS hA (fun H locs hP hS => ?_)
      refine lv_iload_n hx hb d_M_order_17 rfl (lv_at hl 1 rfl) ?_
      refine lv_aload_n hx hb d_M_order_18 rfl (lv_at hl 0 rfl) ?_
      refine wx_get (v := .int (w4.1 2)) (C := RQ_M) (T := FQ_M) (N := 21) hx hb ht IQ_M hown hK hP 0 (by decide) (e_g2_0 cy ad _) rfl 13 (by decide) (ht _ kw_541) (fun _ h9 => h9) rfl d_M_order_19 ?_
      refine lv_icmp_ge (tgt := 34) hx hb d_M_order_22 (by decide) (fun c5 => ?_) (fun c5 => ?_)
      ·
        have hf := op_pos hf c5
        refine lv_iconst (v := -1) hx hb d_M_order_34 (by decide) ?_
        obtain ⟨hv9, rfl⟩ := op_inj hf
        exact wx_iret hx hb hr hlocks hAe hP hS hv9 d_M_order_35
      ·
        have hf := op_neg hf c5
        refine lv_aload_n hx hb d_M_order_25 rfl (lv_at hl 0 rfl) ?_
        refine wx_get (v := .ref (ad 11)) (C := RQ_M) (T := FQ_M) (N := 21) hx hb ht IQ_M hown hK hP 0 (by decide) (e_g2_0 cy ad _) rfl 12 (by decide) (ht _ kw_540) (fun _ h9 => h9) rfl d_M_order_26 ?_
        refine lv_iload_n hx hb d_M_order_29 rfl (lv_at hl 1 rfl) ?_
        obtain ⟨h6, hf⟩ := op_chk hf
        refine wx_iald hx hb hK hP 11 (by decide) (by decide) 5 rfl h6 d_M_order_30 ?_
        refine lv_goto (tgt := 35) hx hb d_M_order_31 (by decide) ?_
        obtain ⟨hv9, rfl⟩ := op_inj hf
        exact wx_iret hx hb hr hlocks hAe hP hS hv9 d_M_order_35
    ·
      have hf := op_neg hf c2
      refine lv_iconst (v := -1) hx hb d_M_order_11 (by decide) ?_
      obtain ⟨hv9, rfl⟩ := op_inj hf
      exact wx_iret hx hb hr hlocks hAe hP hS hv9 d_M_order_12
