/-! displacement, combined -/
theorem lp_cc {ch : Nat} (hch : ch < 4) : ∀ (g f c : Nat) (z : gS), c + g = 4 → g < f → (∀ k, k < c → z.2.2.1 16 k = if k = ch then 1 else 0) → ∃ z', l_R_chooseCase_2 f z (nI ch) (nI c) = some z' ∧ fr [] [] [16] [] z' z ∧ ∀ k, k < 4 → z'.2.2.1 16 k = if k = ch then 1 else 0
  | 0, f + 1, c, z, hg, hf, hz => by
    have : c = 4 := by omega
    subst this
    rw [l_R_chooseCase_2, if_pos (by decide)]
    exact ⟨z, rfl, fr_rf _ _ _ _ z, hz⟩
  | g + 1, f + 1, c, z, hg, hf, hz => by
    have hc : c < 4 := by omega
    have c1 := ck_in hc (by decide)
    have next : ∀ x : Int32, x = (if c = ch then 1 else 0) → ∃ z', l_R_chooseCase_2 f (s_I z 16 (upd (z.2.2.1 16) c x)) (nI ch) (nI (c + 1)) = some z' ∧ fr [] [] [16] [] z' z ∧ ∀ k, k < 4 → z'.2.2.1 16 k = if k = ch then 1 else 0 := fun x hx => by
      have hf1 : fr [] [] [16] [] (s_I z 16 (upd (z.2.2.1 16) c x)) z := fr_I _ _ (by decide)
      obtain ⟨z', b1, b2, b3⟩ := lp_cc hch g f (c + 1) (s_I z 16 (upd (z.2.2.1 16) c x)) (by omega) (by omega) (fun k hk => by
        rw [sI_self]
        by_cases e : k = c
        · rw [e, pk_us, hx]
        · rw [pk_un e]; exact hz k (by omega))
      exact ⟨z', b1, fr_tr b2 hf1, b3⟩
    rw [l_R_chooseCase_2, if_neg (show ¬ (4 : Int32) ≤ nI c from nI_ge (b := 4) hc (by decide))]
    simp only [if_neg c1, let_s, nI_1]
    rw [nI_clamp (show c < 2 ^ 31 by omega)]
    by_cases q : c = ch
    · rw [if_pos (by rw [q])]
      exact next 1 (by rw [if_pos q])
    · rw [if_neg (fun e => q ((nI_eq (by omega) (by omega)).mp e))]
      exact next 0 (by rw [if_neg q])
theorem cc_phi : ∀ ch, ch < 4 → ∀ c, c < 4 → (if c = ch then (1 : Int32) else 0) = (((1 : Int32) <<< (((8 : Int32) * nI ch) &&& 31)) >>> (((8 : Int32) * nI c) &&& 31)).toInt8.toInt32 := by decide +kernel
theorem f_cc {z : gS} {ch : Nat} (hch : ch < 4) : ∃ z', f_R_chooseCase z (nI ch) = some z' ∧ fr [] [] [16] [] z' z ∧ ∀ c, c < 4 → z'.2.2.1 16 c = iI (phi ((1 : Int32) <<< (((8 : Int32) * nI ch) &&& 31)) c) := by
  unfold f_R_chooseCase
  obtain ⟨z', b1, b2, b3⟩ := lp_cc hch 4 200 0 z rfl (by decide) (fun k hk => absurd hk (Nat.not_lt_zero k))
  have b1' : l_R_chooseCase_2 200 z (nI ch) 0 = some z' := b1
  rw [b1', bd1_s]
  exact ⟨z', rfl, b2, fun c hc => by rw [b3 c hc, cc_phi ch hch c hc, phi_i]⟩
theorem lp_cf {X : Int32} : ∀ (g f c : Nat) (z : gS), c + g = 4 → g < f → (∀ k, k < c → z.2.2.1 16 k = iI (phi X k)) → ∃ z', l_R_chooseFactors_2 f z X (nI c) = some z' ∧ fr [] [] [16] [] z' z ∧ ∀ k, k < 4 → z'.2.2.1 16 k = iI (phi X k)
  | 0, f + 1, c, z, hg, hf, hz => by
    have : c = 4 := by omega
    subst this
    rw [l_R_chooseFactors_2, if_pos (by decide)]
    exact ⟨z, rfl, fr_rf _ _ _ _ z, hz⟩
  | g + 1, f + 1, c, z, hg, hf, hz => by
    have hc : c < 4 := by omega
    have c1 := ck_in hc (by decide)
    rw [l_R_chooseFactors_2, if_neg (show ¬ (4 : Int32) ≤ nI c from nI_ge (b := 4) hc (by decide)), if_neg c1, let_s, nI_clamp (show c < 2 ^ 31 by omega), phi_i, nI_1]
    have hf1 : fr [] [] [16] [] (s_I z 16 (upd (z.2.2.1 16) c (iI (phi X c)))) z := fr_I _ _ (by decide)
    obtain ⟨z', b1, b2, b3⟩ := lp_cf g f (c + 1) (s_I z 16 (upd (z.2.2.1 16) c (iI (phi X c)))) (by omega) (by omega) (fun k hk => by
      rw [sI_self]
      by_cases e : k = c
      · rw [e, pk_us]
      · rw [pk_un e]; exact hz k (by omega))
    exact ⟨z', b1, fr_tr b2 hf1, b3⟩
theorem f_cf {z : gS} (X : Int32) : ∃ z', f_R_chooseFactors z X = some z' ∧ fr [] [] [16] [] z' z ∧ ∀ c, c < 4 → z'.2.2.1 16 c = iI (phi X c) := by
  unfold f_R_chooseFactors
  obtain ⟨z', b1, b2, b3⟩ := lp_cf (X := X) 4 200 0 z rfl (by decide) (fun k hk => absurd hk (Nat.not_lt_zero k))
  have b1' : l_R_chooseFactors_2 200 z X 0 = some z' := b1
  rw [b1', bd1_s]
  exact ⟨z', rfl, b2, b3⟩
/-- the determinant of what is sealed -/
def DD (mk nb : Nat) (pt fi se st hd sp : Nat → Nat) : Int := pd_D (AU pt fi se st sp (uU fi se hd nb mk) nb) (List.range (nU fi se hd nb mk))
abbrev frC : gS → gS → Prop := fr [] [0] [16] [23, 24, 25, 26, 27]
abbrev frR : gS → gS → Prop := fr [2, 3] [0, 1] [11, 12, 13] [14, 15]
theorem n10 (k : Nat) (h1 : 1 ≤ k) (h2 : k ≤ 10) : k ∉ [11, 12, 13] := fun m => by
  have : ∀ x ∈ [11, 12, 13], 10 < x := by decide
  have := this _ m
  omega
theorem ivb_r {z1 z2 w : gS} {mk nb : Nat} {pt fi se st hd sp : Nat → Nat} {ha : Nat → Int} {ld : Nat → Nat → Int} (h : iv_b z1 z2 mk nb pt fi se st hd sp ha ld) (hf : frR w z2) : iv_b z1 w mk nb pt fi se st hd sp ha ld := ivb_2 h hf (by decide) n10
theorem frR_1 {z2 w : gS} (hf : frR w z2) (h1 : z2.1 1 = 1) : w.1 1 = 1 := by rw [hf.1 1 (by decide)]; exact h1
theorem frR_w {w z2 : gS} (hf : fr [2, 3] [] [11, 12, 13] [14, 15] w z2) : frR w z2 := fr_w hf (by decide) (by decide) (by decide) (by decide)
theorem b23 (q k : Nat) (h : 28 ≤ k) : q + k ∉ [23, 24, 25, 26, 27] := fun m => by
  have : ∀ x ∈ [23, 24, 25, 26, 27], x < 28 := by decide
  have := this _ m
  omega
theorem iv_q {z1 z2 z w : gS} {mk nb : Nat} {pt fi se st hd sp : Nat → Nat} {ha : Nat → Int} {ld : Nat → Nat → Int} (hb : iv_b z1 z2 mk nb pt fi se st hd sp ha ld) (hs : SKd z1 mk nb pt fi se st hd sp) (h0 : z1.1 0 = 1) (h1 : z2.1 1 = 1) (fz : frC z z1) (fw : frR w z2) : iv SKd z w := by
  have hu := (sealF hb hs).2.1
  have hb2 : iv_b z w mk nb pt fi se st hd sp ha ld := ivb_1 (ivb_r hb fw) fz (by decide) (by decide) (fun k q1 q2 m => by have := List.mem_singleton.mp m; omega) (fun k q m => by have := List.mem_singleton.mp m; omega)
  refine ⟨mk, nb, pt, fi, se, st, hd, sp, ha, ld, hb2, Or.inr ⟨by rw [fz.1 0 (by decide)]; exact h0, frR_1 fw h1, ?_⟩⟩
  exact SK_keep hs fz (by decide) (by decide) (by decide) (by decide) (by decide) (by decide) (by decide) (fun k _ => b23 k 32 (by decide)) (fun k _ => b23 k 42 (by decide)) hu.1
theorem core_num {z1 z2 z : gS} {mk nb : Nat} {pt fi se st hd sp : Nat → Nat} {ha : Nat → Int} {ld : Nat → Nat → Int} (hb : iv_b z1 z2 mk nb pt fi se st hd sp ha ld) (hs : SKd z1 mk nb pt fi se st hd sp) (X : Int32) (hz : fr [] [] [16] [] z z1) (hphi : ∀ c, c < 4 → z.2.2.1 16 c = iI (phi X c)) : ∃ (z' : gS) (N : Nat → Int), f_R_respond_1_2_3 z = some z' ∧ frC z' z1 ∧ f_E_wholeMinor z' = some (jl (DD mk nb pt fi se st hd sp), z') ∧ z'.2.1 0 = jl (DD mk nb pt fi se st hd sp) ∧ (∀ s, s < 10 → z'.2.2.2 24 s = jl (LSm (phi X) ld s)) ∧ (∀ s, z'.2.2.2 25 s = jl (N s)) ∧ (∀ s, s < 10 → ¬ hd s = 0 → jl (N s) = jl (HS (phi X) ha s * DD mk nb pt fi se st hd sp)) ∧ ∀ n, n < 5 → bt5 mk n = 1 → ∀ d, d < 2 → ∀ w, iv_b z1 w mk nb pt fi se st hd sp ha ld → ∃ w', f_M_moved w X (nI (n * 2 + d)) = some (jl (N (n * 2 + d)), w') ∧ frR w' w := by
  obtain ⟨hF, hu, hu2, hu3, hbr, d0, d9, dd⟩ := sealF hb hs
  obtain ⟨hk, t1, hcx, hrx, hrb, hth, h9, h7, h11, h99, _, hbb⟩ := ctx_of hb
  obtain ⟨k1, k2, k3, k4, ⟨k5, k6, k7⟩, k8, k9, k10, k11, k12⟩ := id hs
  obtain ⟨_, _, _, _, hh, a, _, l⟩ := id hb
  have eU : uS (ndR fi se nb mk) hd (2 * pcb mk) = (nU fi se hd nb mk, uU fi se hd nb mk) := by unfold nU uU; rw [hF.1]
  rw [eU] at k5 k6
  have e16 : ∀ k, k ≠ 16 → z.2.2.1 k = z1.2.2.1 k := fun k hk => hz.2.2.1 k (nmem1 hk)
  have eJ : z.2.2.2 = z1.2.2.2 := funext (fun k => hz.2.2.2 k List.not_mem_nil)
  have hqx : qx z (phi X) ha ld hd := ⟨fun c hc => ⟨hphi c hc, phi_r X c⟩, fun d hd => by rw [e16 10 (by decide)]; exact ⟨(a d hd).1, (a d hd).2.2⟩, fun c hc d hd => by rw [e16 (c + 28) (by omega)]; exact ⟨(l c hc d hd).1, (l c hc d hd).2.2⟩, fun d hd => by rw [e16 9 (by decide)]; exact h9 d hd⟩
  obtain ⟨z', y, r1, r2, r3, r4, r5, r6, r7, r8⟩ := f_resp (z := z) (A := AU pt fi se st sp (uU fi se hd nb mk) nb) (K := KI pt fi se st sp nb) hu hu2 hqx (by rw [hz.1 5 (by decide)]; exact k5) (fun k hk => by rw [e16 15 (by decide)]; exact k6 k hk) (by rw [hz.1 6 (by decide)]; exact k8) (fun k hk c hc => by rw [eJ]; exact k9 k hk c hc) (fun p hp q hq => by rw [eJ]; exact k10 p hp q hq) (fun j hj => by rw [eJ]; exact k12 j hj)
  have frz : frC z' z1 := fr_tr (fr_w r2 (by decide) (by decide) (by decide) (by decide)) (fr_w hz (by decide) (by decide) (by decide) (by decide))
  refine ⟨z', fun s => (z'.2.2.2 25 s).toInt, r1, frz, f_wm hu.1 (by rw [frz.1 6 (by decide)]; exact k8) (fun j hj => by rw [frz.2.2.2 20 (by decide)]; exact k12 j hj), r4, r5, fun s => jl_of _, fun s hs9 hh9 => ?_, fun n hn hbit d hd2 w hw => ?_⟩
  · rw [← jl_of]
    exact r7 s hs9 hh9
  · have h10 : n * 2 + d < 10 := by omega
    obtain ⟨m1, m2⟩ := f_mvd hw hs X r3 h10
    rw [← jl_of]
    by_cases q : hd (n * 2 + d) = 0
    · obtain ⟨i, i1, i2⟩ := hu3 n hn hbit d hd2 q
      obtain ⟨w', x1, x2⟩ := m1 i i1 i2
      have := r6 i i1
      rw [i2] at this
      rw [this]
      exact ⟨w', x1, frR_w x2⟩
    · obtain ⟨w', x1, x2⟩ := m2 q
      rw [r7 _ h10 q]
      exact ⟨w', x1, frR_w x2⟩
theorem gd_part (x : Int32) : (∀ z, f_S_isPart z x = some (0, z)) ∧ (∀ w, f_M_off w x 1 = some (1, w)) ∨ ((∀ z, f_S_isPart z x = some (1, z)) ∧ ∀ w, f_M_off w x 1 = some (0, w)) := by
  rcases gd_dir x with ⟨h1, h2⟩ | ⟨j, hj, rfl, h1, h2⟩
  · refine Or.inl ⟨fun z => ?_, h2⟩
    unfold f_S_isPart
    have n0 : ¬ x = 0 := fun e => by
      have := h2 z
      rw [e] at this
      exact absurd this (by unfold f_M_off; rw [if_neg (by decide), if_pos (by decide)]; intro q; cases q)
    have n1 : ¬ x = 1 := fun e => by
      have := h2 z
      rw [e] at this
      exact absurd this (by unfold f_M_off; rw [if_neg (by decide), if_pos (by decide)]; intro q; cases q)
    rw [if_neg n0, if_neg n1]
  · refine Or.inr ⟨fun z => ?_, h2⟩
    unfold f_S_isPart
    have h2 : j = 0 ∨ j = 1 := by omega
    rcases h2 with e | e
    · rw [e, if_pos (show nI 0 = 0 from rfl)]
    · rw [e, if_neg (by decide), if_pos (show nI 1 = 1 from rfl)]
theorem ans_sp {z1 z2 : gS} {mk nb : Nat} {pt fi se st hd sp : Nat → Nat} {ha : Nat → Int} {ld : Nat → Nat → Int} (hb : iv_b z1 z2 mk nb pt fi se st hd sp ha ld) (h0 : z1.1 0 = 1) (p2 p3 p4 : Int32) : (f_S_isAnswerable z1 p2 p3 p4 = some (0, z1) ∧ ((∀ w, f_M_off w p2 4 = some (1, w)) ∨ ∃ n, n < 5 ∧ p2 = nI n ∧ (∀ w, f_M_off w p2 4 = some (0, w)) ∧ (bt5 mk n = 0 ∨ (bt5 mk n = 1 ∧ ((∀ w, f_M_off w p3 1 = some (1, w)) ∨ ((∀ w, f_M_off w p3 1 = some (0, w)) ∧ ∀ w, f_M_off w p4 1 = some (1, w))))))) ∨ ∃ n d, n < 5 ∧ d < 2 ∧ p2 = nI n ∧ p3 = nI d ∧ bt5 mk n = 1 ∧ f_S_isAnswerable z1 p2 p3 p4 = some (1, z1) ∧ (∀ w, f_M_off w p2 4 = some (0, w)) ∧ (∀ w, f_M_off w p3 1 = some (0, w)) ∧ ∀ w, f_M_off w p4 1 = some (0, w) := by
  obtain ⟨hk, t1, _⟩ := ctx_of hb
  unfold f_S_isAnswerable f_S_isNodeThere
  rw [h0, if_neg (by decide)]
  rcases gd_node p2 with ⟨n1, n2⟩ | ⟨n, hn, rfl, n1, n2⟩
  · rw [n1, bd2_s, if_pos rfl, bd2_s, if_pos rfl]
    exact Or.inl ⟨rfl, Or.inl n2⟩
  rw [n1, bd2_s, if_neg (by decide), f_there t1 hk hn, bd2_s, show mk / 2 ^ n % 2 = bt5 mk n from rfl]
  rcases bt5_01 mk n with q | q
  · rw [q, if_pos (show nI 0 = 0 from rfl), bd2_s, if_pos rfl]
    exact Or.inl ⟨rfl, Or.inr ⟨n, hn, rfl, n2, Or.inl q⟩⟩
  rw [q, if_neg (show ¬ nI 1 = 0 by decide), bd2_s, if_neg (by decide)]
  rcases gd_dir p3 with ⟨d1, d2⟩ | ⟨d, hd, rfl, d1, d2⟩
  · rw [d1, bd2_s, if_pos rfl]
    exact Or.inl ⟨rfl, Or.inr ⟨n, hn, rfl, n2, Or.inr ⟨q, Or.inl d2⟩⟩⟩
  rw [d1, bd2_s, if_neg (by decide)]
  rcases gd_part p4 with ⟨e1, e2⟩ | ⟨e1, e2⟩
  · rw [e1, bd2_s, if_pos rfl]
    exact Or.inl ⟨rfl, Or.inr ⟨n, hn, rfl, n2, Or.inr ⟨q, Or.inr ⟨d2, e2⟩⟩⟩⟩
  · rw [e1, bd2_s, if_neg (by decide)]
    exact Or.inr ⟨n, d, hn, hd, rfl, rfl, q, rfl, n2, d2, e2⟩
theorem cmb_no {z1 z2 : gS} {mk nb : Nat} {pt fi se st hd sp : Nat → Nat} {ha : Nat → Int} {ld : Nat → Nat → Int} (hb : iv_b z1 z2 mk nb pt fi se st hd sp ha ld) (h1 : z2.1 1 = 1) {p2 p3 p4 : Int32} (h : (∀ w, f_M_off w p2 4 = some (1, w)) ∨ ∃ n, n < 5 ∧ p2 = nI n ∧ (∀ w, f_M_off w p2 4 = some (0, w)) ∧ (bt5 mk n = 0 ∨ (bt5 mk n = 1 ∧ ((∀ w, f_M_off w p3 1 = some (1, w)) ∨ ((∀ w, f_M_off w p3 1 = some (0, w)) ∧ ∀ w, f_M_off w p4 1 = some (1, w)))))) (X : Int32) : f_M_combined z2 X p2 p3 p4 = some (-4000000000000000000, z2) := by
  have hth := (ctx_of hb).2.2.2.2.2.1
  unfold f_M_combined
  rw [h1, if_neg (by decide)]
  rcases h with n2 | ⟨n, hn, rfl, n2, h⟩
  · rw [n2, bd2_s, if_neg (by decide)]
  rw [n2, bd2_s, if_pos rfl, if_neg (ck_in hn (by decide)), nI_clamp (show n < 2 ^ 31 by omega), hth n hn, show mk / 2 ^ n % 2 = bt5 mk n from rfl]
  rcases h with q | ⟨q, h⟩
  · rw [q, if_pos (show nI 0 = 0 from rfl)]
  rw [q, if_neg (show ¬ nI 1 = 0 by decide)]
  rcases h with d2 | ⟨d2, e2⟩
  · rw [d2, bd2_s, if_neg (by decide)]
  · rw [d2, bd2_s, if_pos rfl, e2, bd2_s, if_neg (by decide)]
theorem cmb_yes {z1 z2 z : gS} {mk nb : Nat} {pt fi se st hd sp : Nat → Nat} {ha : Nat → Int} {ld : Nat → Nat → Int} (hb : iv_b z1 z2 mk nb pt fi se st hd sp ha ld) (hs : SKd z1 mk nb pt fi se st hd sp) (h0 : z1.1 0 = 1) (h1 : z2.1 1 = 1) (X : Int32) (hz : fr [] [] [16] [] z z1) (hphi : ∀ c, c < 4 → z.2.2.1 16 c = iI (phi X c)) {n d : Nat} (hn : n < 5) (hd2 : d < 2) (hbit : bt5 mk n = 1) {part : Int32} (n2 : ∀ w, f_M_off w (nI n) 4 = some (0, w)) (d2 : ∀ w, f_M_off w (nI d) 1 = some (0, w)) (e2 : ∀ w, f_M_off w part 1 = some (0, w)) : ∃ r z' w', (bd1 (f_R_respond_1_2_3 z) (fun w8 => bd2 (f_S_slotOf w8 (nI n) (nI d)) (fun r11 w10 =>
 if r11 < 0 ∨ 10 ≤ r11.toNatClampNeg then none else
 bd2 (f_S_partOfFraction w10 (w10.2.2.2 25 r11.toNatClampNeg) part) (fun r15 w14 => some (r15, w14))))) = some (r, z') ∧ f_M_combined z2 X (nI n) (nI d) part = some (r, w') ∧ iv SKd z' w' := by
  obtain ⟨z', N, r1, r2, r3, r4, r5, r6, r7, r8⟩ := core_num hb hs X hz hphi
  obtain ⟨_, _, _, _, _, d0, d9, _⟩ := sealF hb hs
  have hth := (ctx_of hb).2.2.2.2.2.1
  obtain ⟨w1, m1, m2⟩ := r8 n hn hbit d hd2 z2 hb
  obtain ⟨w2, m3, m4⟩ := f_mdt (ivb_r hb m2) hs (frR_1 m2 h1)
  have m3' : f_M_determinant w1 = some (jl (DD mk nb pt fi se st hd sp), w2) := m3
  obtain ⟨r, w3, g1, g2, g3⟩ := f_frac (z := z') (w := w2) (num := jl (N (n * 2 + d))) (part := part) d0 d9 r3
  have g2' : f_M_fraction w2 (jl (N (n * 2 + d))) (jl (DD mk nb pt fi se st hd sp)) part = some (r, w3) := g2
  have c1 := ck_in (show n * 2 + d < 10 by omega) (by decide)
  refine ⟨r, z', w3, ?_, ?_, iv_q hb hs h0 h1 r2 (fr_tr (fr_w g3 (by decide) (by decide) (by decide) (by decide)) (fr_tr (frR_w m4) m2))⟩
  · rw [r1, bd1_s, f_slot, bd2_s, if_neg c1, nI_clamp (show n * 2 + d < 2 ^ 31 by omega), r6, g1, bd2_s]
  · unfold f_M_combined
    rw [h1, if_neg (by decide), n2, bd2_s, if_pos rfl, if_neg (ck_in hn (by decide)), nI_clamp (show n < 2 ^ 31 by omega), hth n hn, show mk / 2 ^ n % 2 = bt5 mk n from rfl, hbit, if_neg (show ¬ nI 1 = 0 by decide), d2, bd2_s, if_pos rfl, e2, bd2_s, if_pos rfl, sl_of, m1, bd2_s, m3', bd2_s, g2', bd2_s]
theorem ok_combined {z1 z2 : gS} {p1 p2 p3 p4 : Int32} (h : iv SKd z1 z2) : ∃ r w1 w2, f_S_combined z1 p1 p2 p3 p4 = some (r, w1) ∧ f_M_combined z2 p1 p2 p3 p4 = some (r, w2) ∧ iv SKd w1 w2 := by
  obtain ⟨mk, nb, pt, fi, se, st, hd, sp, ha, ld, hb, hs⟩ := id h
  unfold f_S_combined
  rcases hs with ⟨s1, s2⟩ | ⟨s1, s2, s3⟩
  · unfold f_S_isAnswerable f_M_combined
    rw [s1, s2, if_pos rfl, if_pos rfl, bd2_s, if_pos rfl]
    exact ⟨_, z1, z2, rfl, rfl, h⟩
  rcases ans_sp hb s1 p2 p3 p4 with ⟨a1, a2⟩ | ⟨n, d, hn, hd2, rfl, rfl, hbit, a1, a2, a3, a4⟩
  · rw [a1, bd2_s, if_pos rfl, cmb_no hb s2 a2]
    exact ⟨_, z1, z2, rfl, rfl, h⟩
  · obtain ⟨z, c1, c2, c3⟩ := f_cf (z := z1) p1
    rw [a1, bd2_s, if_neg (by decide), c1, bd1_s]
    exact cmb_yes hb s3 s1 s2 p1 c2 c3 hn hd2 hbit a2 a3 a4
theorem ok_displacement {z1 z2 : gS} {p1 p2 p3 p4 : Int32} (h : iv SKd z1 z2) : ∃ r w1 w2, f_S_displacement z1 p1 p2 p3 p4 = some (r, w1) ∧ f_M_displacement z2 p1 p2 p3 p4 = some (r, w2) ∧ iv SKd w1 w2 := by
  obtain ⟨mk, nb, pt, fi, se, st, hd, sp, ha, ld, hb, hs⟩ := id h
  unfold f_S_displacement f_M_displacement
  rcases gd_case p1 with ⟨k1, k2⟩ | ⟨c, hc, rfl, k1, k2⟩
  · rw [k1, k2, bd2_s, bd2_s, if_pos rfl, if_neg (by decide)]
    exact ⟨_, z1, z2, rfl, rfl, h⟩
  rw [k1, k2, bd2_s, bd2_s, if_neg (by decide), if_pos rfl]
  rcases hs with ⟨s1, s2⟩ | ⟨s1, s2, s3⟩
  · unfold f_S_isAnswerable f_M_combined
    rw [s1, s2, if_pos rfl, if_pos rfl, bd2_s, bd2_s, if_pos rfl]
    exact ⟨_, z1, z2, rfl, rfl, h⟩
  rcases ans_sp hb s1 p2 p3 p4 with ⟨a1, a2⟩ | ⟨n, d, hn, hd2, rfl, rfl, hbit, a1, a2, a3, a4⟩
  · rw [a1, bd2_s, if_pos rfl, cmb_no hb s2 a2, bd2_s]
    exact ⟨_, z1, z2, rfl, rfl, h⟩
  · obtain ⟨z, c1, c2, c3⟩ := f_cc (z := z1) hc
    rw [a1, bd2_s, if_neg (by decide), c1, bd1_s]
    obtain ⟨r, z', w', x1, x2, x3⟩ := cmb_yes hb s3 s1 s2 _ c2 c3 hn hd2 hbit a2 a3 a4
    rw [x2, bd2_s]
    exact ⟨r, z', w', x1, rfl, x3⟩
theorem ok_determinant {z1 z2 : gS} (h : iv SKd z1 z2) : ∃ r w1 w2, f_S_determinant z1 = some (r, w1) ∧ f_M_determinant z2 = some (r, w2) ∧ iv SKd w1 w2 := by
  obtain ⟨mk, nb, pt, fi, se, st, hd, sp, ha, ld, hb, hs⟩ := id h
  rcases hs with ⟨s1, s2⟩ | ⟨s1, s2, s3⟩
  · unfold f_S_determinant f_M_determinant
    rw [s1, s2, if_pos rfl, if_pos rfl]
    exact ⟨_, z1, z2, rfl, rfl, h⟩
  · obtain ⟨hF, hu, _⟩ := sealF hb s3
    obtain ⟨w, m1, m2⟩ := f_mdt hb s3 s2
    unfold f_S_determinant
    rw [s1, if_neg (by decide), f_wm hu.1 s3.2.2.2.2.2.1 s3.2.2.2.2.2.2.2.2.2, bd2_s, m1]
    exact ⟨_, z1, w, rfl, rfl, iv_q hb s3 s1 s2 (fr_rf _ _ _ _ z1) (frR_w m2)⟩
