/-! What the sealed object keeps; solve -/
theorem us_of {fi se hd : Nat → Nat} {nb mk : Nat} (hF : ordF fi se nb mk) : usF (nU fi se hd nb mk) (uU fi se hd nb mk) ∧ (∀ i, i < nU fi se hd nb mk → hd (uU fi se hd nb mk i) = 0) ∧ ∀ n, n < 5 → bt5 mk n = 1 → ∀ d, d < 2 → hd (n * 2 + d) = 0 → ∃ i, i < nU fi se hd nb mk ∧ uU fi se hd nb mk i = n * 2 + d := by
  obtain ⟨o1, o2, o3, o4⟩ := hF
  have h5 := pcb_le mk
  unfold usF nU uU
  rw [o1]
  refine ⟨⟨?_, fun i hi => uS_lt o2 (Nat.le_refl _) hi, fun i hi => uS_inj o3 _ (Nat.le_refl _) i hi⟩, fun i hi => ?_, fun n hn hb d hd2 h0 => ?_⟩
  · have := uS_le (ndR fi se nb mk) hd (2 * pcb mk)
    omega
  · obtain ⟨j, j1, j2, j3⟩ := uS_at _ _ _ i hi
    rw [j2]
    exact j3
  · obtain ⟨i, i1, i2⟩ := o4 n hn hb
    have e : sl2 (ndR fi se nb mk) (2 * i + d) = n * 2 + d := by
      unfold sl2
      rw [show (2 * i + d) / 2 = i by omega, show (2 * i + d) % 2 = d by omega, i2]
    obtain ⟨k, k1, k2⟩ := uS_all (ndR fi se nb mk) hd (2 * pcb mk) (2 * i + d) (by omega) (by rw [e]; exact h0)
    exact ⟨k, k1, by rw [k2, e]⟩
def SKd : skT := fun z mk nb pt fi se st hd sp => mk ≠ 0 ∧ (∀ i, i < nb → bdB pt fi se mk i = false) ∧ z.1 3 = nI (pcb mk) ∧ (∀ i, i < pcb mk → z.2.2.1 12 i = nI (ndR fi se nb mk i)) ∧ NS (ndR fi se nb mk) hd (2 * pcb mk) z ∧ z.1 6 = nI (nU fi se hd nb mk) ∧ (∀ k, k < 10 → ∀ c, c < 10 → z.2.2.2 (k + 32) c = jl (KI pt fi se st sp nb k c)) ∧ (∀ l, l < nU fi se hd nb mk → ∀ k, k < nU fi se hd nb mk → z.2.2.2 (l + 42) k = jl (AU pt fi se st sp (uU fi se hd nb mk) nb l k)) ∧ (∀ j, j ≤ nU fi se hd nb mk → pd_D (AU pt fi se st sp (uU fi se hd nb mk) nb) (List.range j) ≠ 0) ∧ ∀ k, k ≤ nU fi se hd nb mk → z.2.2.2 20 k = jl (ch_P (AU pt fi se st sp (uU fi se hd nb mk) nb) (List.range (nU fi se hd nb mk)) k)
theorem SK_keep {a b c d : List Nat} {z y : gS} {mk nb : Nat} {pt fi se st hd sp : Nat → Nat} (h : SKd y mk nb pt fi se st hd sp) (hf : fr a b c d z y) (a3 : 3 ∉ a) (a5 : 5 ∉ a) (a6 : 6 ∉ a) (c2 : 12 ∉ c) (c4 : 14 ∉ c) (c5 : 15 ∉ c) (d0 : 20 ∉ d) (d3 : ∀ k, k < 10 → k + 32 ∉ d) (d4 : ∀ k, k < 10 → k + 42 ∉ d) (hn : nU fi se hd nb mk ≤ 10) : SKd z mk nb pt fi se st hd sp := by
  obtain ⟨h1, h2, h3, h4, ⟨h5, h6, h7⟩, h8, h9, h10, h11, h12⟩ := h
  refine ⟨h1, h2, by rw [hf.1 3 a3]; exact h3, fun i hi => by rw [hf.2.2.1 12 c2]; exact h4 i hi, ⟨by rw [hf.1 5 a5]; exact h5, fun i hi => by rw [hf.2.2.1 15 c5]; exact h6 i hi, fun j hj => by rw [hf.2.2.1 14 c4]; exact h7 j hj⟩, by rw [hf.1 6 a6]; exact h8, fun k hk c hc => by rw [hf.2.2.2 _ (d3 k hk)]; exact h9 k hk c hc, fun l hl k hk => by rw [hf.2.2.2 _ (d4 l (by omega))]; exact h10 l hl k hk, h11, fun k hk => by rw [hf.2.2.2 20 d0]; exact h12 k hk⟩
/-! what both stores tell, taken apart and kept -/
theorem ctx_of {z1 z2 : gS} {mk nb : Nat} {pt fi se st hd sp : Nat → Nat} {ha : Nat → Int} {ld : Nat → Nat → Int} (h : iv_b z1 z2 mk nb pt fi se st hd sp ha ld) : mk < 32 ∧ z1.1 1 = nI mk ∧ cx z1 nb pt fi se st ∧ rx z2 nb pt fi se st ∧ rbars z2 nb fi se ∧ b_th (z2.2.2.1 1) mk ∧ (∀ d, d < 10 → z1.2.2.1 9 d = nI (hd d) ∧ hd d ≤ 1) ∧ (∀ d, d < 10 → z2.2.2.1 7 d = nI (hd d) ∧ hd d ≤ 1) ∧ (∀ d, d < 10 → z1.2.2.1 11 d = nI (sp d) ∧ sp d ≤ 3) ∧ (∀ d, d < 10 → z2.2.2.1 9 d = nI (sp d) ∧ sp d ≤ 3) ∧ brF nb fi se st sp ∧ ∀ i, i < nb → fi i < 5 ∧ se i < 5 ∧ fi i ≠ se i := by
  obtain ⟨⟨s1, s2, s3, s4, s5⟩, t, p, b, hh, a, s, l⟩ := h
  refine ⟨s1, s3, ⟨s2, s4, fun k hk => ?_, fun i hi => ?_⟩, ⟨s2, s5, fun n hn => ?_, fun i hi => ?_⟩, ⟨s2, s5, fun i hi => ?_⟩, t, fun d hd => ⟨(hh d hd).1, (hh d hd).2.2⟩, fun d hd => ⟨(hh d hd).2.1, (hh d hd).2.2⟩, fun d hd => ⟨(s d hd).1, (s d hd).2.2⟩, fun d hd => ⟨(s d hd).2.1, (s d hd).2.2⟩, ⟨s2, fun i hi => ?_, fun d hd => (s d hd).2.2⟩, fun i hi => ?_⟩
  · obtain ⟨p1, p2, p3, p4, p5, p6⟩ := p (k / 2) (by omega)
    have e : k % 2 = 0 ∨ k % 2 = 1 := by omega
    rcases e with e | e
    · rw [show k = 2 * (k / 2) by omega]; exact ⟨p1, p5⟩
    · rw [show k = 2 * (k / 2) + 1 by omega]; exact ⟨p2, p6⟩
  · obtain ⟨b1, b2, b3, b4, b5, b6, b7, b8, b9, b10, b11⟩ := b i hi
    exact ⟨b1, b2, b3, b7, b8, b9, b10, b11⟩
  · obtain ⟨p1, p2, p3, p4, p5, p6⟩ := p n hn
    rw [Nat.mul_comm n 2]
    exact ⟨p3, p4, p5, p6⟩
  · obtain ⟨b1, b2, b3, b4, b5, b6, b7, b8, b9, b10, b11⟩ := b i hi
    exact ⟨b4, b5, b6, b7, b8, b9, b10, b11⟩
  · obtain ⟨b1, b2, b3, b4, b5, b6, b7, b8, b9, b10, b11⟩ := b i hi
    exact ⟨b4, b5, b7, b8, b9⟩
  · obtain ⟨b1, b2, b3, b4, b5, b6, b7, b8, b9, b10, b11⟩ := b i hi
    exact ⟨b11, b7, b8⟩
  · obtain ⟨b1, b2, b3, b4, b5, b6, b7, b8, b9, b10, b11⟩ := b i hi
    exact ⟨b7, b8, b9⟩
theorem ivb_2 {a b c d : List Nat} {z1 z2 w : gS} {mk nb : Nat} {pt fi se st hd sp : Nat → Nat} {ha : Nat → Int} {ld : Nat → Nat → Int} (h : iv_b z1 z2 mk nb pt fi se st hd sp ha ld) (hf : fr a b c d w z2) (ha0 : 0 ∉ a) (hc : ∀ k, 1 ≤ k → k ≤ 10 → k ∉ c) : iv_b z1 w mk nb pt fi se st hd sp ha ld := by
  obtain ⟨⟨s1, s2, s3, s4, s5⟩, t, p, b', hh, a', s, l⟩ := h
  unfold iv_b
  rw [hf.2.2.1 1 (hc 1 (by decide) (by decide)), hf.2.2.1 2 (hc 2 (by decide) (by decide)), hf.2.2.1 3 (hc 3 (by decide) (by decide)), hf.2.2.1 4 (hc 4 (by decide) (by decide)), hf.2.2.1 5 (hc 5 (by decide) (by decide)), hf.2.2.1 6 (hc 6 (by decide) (by decide)), hf.2.2.1 7 (hc 7 (by decide) (by decide)), hf.2.2.1 8 (hc 8 (by decide) (by decide)), hf.2.2.1 9 (hc 9 (by decide) (by decide)), hf.2.2.1 10 (hc 10 (by decide) (by decide))]
  exact ⟨⟨s1, s2, s3, s4, by rw [hf.1 0 ha0]; exact s5⟩, t, p, b', hh, a', s, l⟩
theorem ivb_1 {a b c d : List Nat} {z1 z2 w : gS} {mk nb : Nat} {pt fi se st hd sp : Nat → Nat} {ha : Nat → Int} {ld : Nat → Nat → Int} (h : iv_b z1 z2 mk nb pt fi se st hd sp ha ld) (hf : fr a b c d w z1) (ha1 : 1 ∉ a) (ha2 : 2 ∉ a) (hc : ∀ k, 5 ≤ k → k ≤ 11 → k ∉ c) (hc2 : ∀ k, k < 4 → k + 28 ∉ c) : iv_b w z2 mk nb pt fi se st hd sp ha ld := by
  obtain ⟨⟨s1, s2, s3, s4, s5⟩, t, p, b', hh, a', s, l⟩ := h
  unfold iv_b
  rw [hf.2.2.1 5 (hc 5 (by decide) (by decide)), hf.2.2.1 6 (hc 6 (by decide) (by decide)), hf.2.2.1 7 (hc 7 (by decide) (by decide)), hf.2.2.1 8 (hc 8 (by decide) (by decide)), hf.2.2.1 9 (hc 9 (by decide) (by decide)), hf.2.2.1 10 (hc 10 (by decide) (by decide)), hf.2.2.1 11 (hc 11 (by decide) (by decide))]
  exact ⟨⟨s1, s2, by rw [hf.1 1 ha1]; exact s3, by rw [hf.1 2 ha2]; exact s4, s5⟩, t, p, b', hh, a', s, fun c hc9 d hd => by rw [hf.2.2.1 _ (hc2 c hc9)]; exact l c hc9 d hd⟩
/-! the weak unknown, as the reference finds it -/
theorem col_m1 {A : Nat → Nat → Int} {us : Nat → Nat} {K : Nat → Nat → Int} {b : Nat → Int} {n : Nat} (hA : ∀ i j, A i j = K (us i) (us j)) (hn : n ≤ 10) : ∀ i, i < n → ∀ j, j < n → A i j = if nI j = (-1 : Int32) then b i else K (us i) (us j) := fun i hi j hj => by
  rw [if_neg (fun e => by
    have h := nI_pos (show j < 2 ^ 31 by omega)
    rw [e] at h
    exact h (by decide)), hA]
theorem dxx_le {z : gS} {n m : Nat} {us : Nat → Nat} {K : Nat → Nat → Int} {b : Nat → Int} (h : dxx z n us K b) (hm : m ≤ n) : dxx z m us K b := ⟨fun i hi => h.1 i (by omega), h.2.1, h.2.2.1, fun i hi => h.2.2.2 i (by omega)⟩
theorem lp_74 {n k : Nat} {us : Nat → Nat} {K A : Nat → Nat → Int} {b : Nat → Int} (hn : n ≤ 10) (hk : k < n) (hA : ∀ i j, A i j = K (us i) (us j)) (hd : ∀ j, j ≤ n → 0 ≤ pd_D A (List.range j) ∧ pd_D A (List.range j) < 1099511627776) (h1 : ∀ j, j ≤ k → pd_D A (List.range j) ≠ 0) (h0 : pd_D A (List.range (k + 1)) = 0) : ∀ (g f j : Nat) (z : gS), j + g = k + 1 → g < f → z.1 3 = nI n → dxx z n us K b → ∃ z', l_M_solve_74 f z (nI j) = some (0, nI (k + 1), z') ∧ fr [] [] [] [15] z' z
  | g, f + 1, j, z, hg, hf, h3, hx => by
    have e : pd_D A (List.range j) = dt j A := lk_D j (fun i hi => h1 i (by omega))
    have hdj := hd j (by omega)
    rw [e] at hdj
    obtain ⟨z1, a1, a2⟩ := f_det (col := -1) (A := A) (b := b) (show j ≤ 10 by omega) (col_m1 hA (by omega)) (dxx_le hx (by omega)) (by omega) (by omega)
    rw [l_M_solve_74, h3, if_neg (nI_nlt (show j ≤ n by omega) (by omega)), a1, bd2_s]
    match g, hg, hf with
    | 0, hg, hf =>
      have ej : j = k + 1 := by omega
      subst ej
      rw [if_pos ((lg_cmp_eq _ _).mpr (by rw [← e, h0]; rfl))]
      exact ⟨z1, rfl, a2⟩
    | g + 1, hg, hf =>
      have hne := h1 j (by omega)
      rw [e] at hne
      rw [if_neg (fun c => hne ((jl_z (by omega) (by omega)).mp ((lg_cmp_eq _ _).mp c))), nI_1]
      obtain ⟨z', b1, b2⟩ := lp_74 hn hk hA hd h1 h0 g f (j + 1) z1 (by omega) (by omega) (by rw [a2.1 3 (by decide)]; exact h3) (dxx_keep hx a2)
      exact ⟨z', b1, fr_tr b2 a2⟩
  | _, 0, _, _, _, hf, _, _ => absurd hf (Nat.not_lt_zero _)
theorem wk_eq : ∀ k, k < 10 → (-299 : Int32) - nI (k + 1) = (-300 : Int32) - nI k := by decide +kernel
theorem dxx_of {z : gS} {n nb : Nat} {pt fi se st sp us : Nat → Nat} (hb : brF nb fi se st sp) (hu : usF n us) (h12 : ∀ i, i < n → z.2.2.1 12 i = nI (us i)) (h13 : ∀ k, k < 100 → z.2.2.1 13 k = iI (KI pt fi se st sp nb (k / 10) (k % 10))) {b : Nat → Int} (h14 : ∀ i, i < n → z.2.2.2 14 i = jl (b i) ∧ -9223372036854775808 ≤ b i ∧ b i < 9223372036854775808) : dxx z n us (KI pt fi se st sp nb) b := ⟨fun i hi => ⟨h12 i hi, hu.2.1 i hi⟩, h13, fun r hr c hc => by
    have := K_rng (pt := pt) (fi := fi) (se := se) (st := st) hb.2.2 hr c nb (fun k hk => (hb.2.1 k hk).1)
    have := hb.1
    omega, h14⟩
theorem ok_solve {z1 z2 : gS} (h : iv SKd z1 z2) : ∃ r w1 w2, f_S_solve z1 = some (r, w1) ∧ f_M_solve z2 = some (r, w2) ∧ iv SKd w1 w2 := by
  obtain ⟨mk, nb, pt, fi, se, st, hd, sp, ha, ld, hb, hs⟩ := h
  rcases hs with ⟨s1, s2⟩ | ⟨s1, s2, s3⟩
  case inr =>
    refine ⟨-4, z1, z2, ?_, ?_, mk, nb, pt, fi, se, st, hd, sp, ha, ld, hb, Or.inr ⟨s1, s2, s3⟩⟩
    · unfold f_S_solve; rw [if_neg (by rw [s1]; decide)]
    · unfold f_M_solve; rw [if_neg (by rw [s2]; decide)]
  obtain ⟨hk, t1, hcx, hrx, hrb, hth, h9, h7, h11, h99, hbr, hbb⟩ := ctx_of hb
  have hnb := hcx.1
  unfold f_S_solve f_M_solve f_T_nodeCount
  rw [if_pos s1, if_pos s2, t1, f_bits z1 hk, bd2_s, bd2_s]
  obtain ⟨w, m1, m2, m3, m4, m5, m6, m7, m8⟩ := f_mo (hd := hd) hrb hk hth h7
  rw [m1, bd1_s, m5]
  have hbw := ivb_2 hb m2 (by decide) (fun k q1 q2 m => by have : ∀ x ∈ [11, 12], 10 < x := (by decide); have := this _ m; omega)
  have w1s : w.1 1 = 0 := by rw [m2.1 1 (by decide)]; exact s2
  by_cases q0 : mk = 0
  · subst q0
    rw [if_pos (by decide), m4.mpr rfl, if_pos (by decide)]
    exact ⟨-100, z1, w, rfl, rfl, 0, nb, pt, fi, se, st, hd, sp, ha, ld, hbw, Or.inl ⟨s1, w1s⟩⟩
  have hp1 := pcb_1 mk hk q0
  have hp5 := pcb_le mk
  have hr0 : (oR fi se nb mk).1 ≠ 0 := fun e => q0 (m4.mp e)
  rw [if_neg (nI_ne0 (by omega) (by omega)), if_neg (nI_ne0 (by omega) (by omega))]
  obtain ⟨_, _, _, hrxw, _, hthw, _, _, _, h99w, _, _⟩ := ctx_of hbw
  -- the first bad bar
  obtain ⟨e1, c1, c2⟩ := lp_fbc hcx t1 hk nb 200 0 (by omega) (by omega)
  obtain ⟨e2, d1, d2⟩ := lp_fbm hrxw hthw nb 200 0 (by omega) (by omega)
  have c1' : l_T_firstBadBar_2 200 z1 0 = some (e1, nI (fbS (bdB pt fi se mk) nb 0), z1) := c1
  have d1' : l_M_solve_26 200 w 0 = some (e2, nI (fbS (bdB pt fi se mk) nb 0), w) := d1
  unfold f_T_firstBadBar
  rw [c1', bd3_s, d1', bd3_s]
  rcases c2 with ⟨rfl, c3⟩ | ⟨rfl, c3⟩
  · rcases d2 with ⟨rfl, d3⟩ | ⟨rfl, d3⟩
    · rw [if_pos rfl, if_pos rfl, bd2_s, if_neg (nI_pos (by omega))]
      exact ⟨_, z1, w, rfl, rfl, mk, nb, pt, fi, se, st, hd, sp, ha, ld, hbw, Or.inl ⟨s1, w1s⟩⟩
    · omega
  rcases d2 with ⟨rfl, d3⟩ | ⟨rfl, d3⟩
  · omega
  rw [if_neg (by decide), if_neg (by decide), bd2_s, if_pos (by decide)]
  have hgood : ∀ i, i < nb → bdB pt fi se mk i = false := fun i hi => (fbS_le (bdB pt fi se mk) nb 0).2.2 i (Nat.zero_le _) (by omega)
  have hgt := good_th hgood
  obtain ⟨hF, _⟩ := ord_F hbb hgt hk
  obtain ⟨hu, hu2, hu3⟩ := us_of (hd := hd) hF
  -- the program
  obtain ⟨x1, g1, g2, g3, g4, g5⟩ := f_mk (hd := hd) hnb hcx.2.1 t1 hk q0 (fun i hi => ⟨(hcx.2.2.2 i hi).1, (hcx.2.2.2 i hi).2.1, hbb i hi⟩) hgt h9
  rw [g1, bd1_s]
  have eU : uS (ndR fi se nb mk) hd (2 * pcb mk) = (nU fi se hd nb mk, uU fi se hd nb mk) := by unfold nU uU; rw [hF.1]
  have hx5 : x1.1 5 = nI (nU fi se hd nb mk) := by rw [g5.1, eU]
  have hx15 : ∀ k, k < nU fi se hd nb mk → x1.2.2.1 15 k = nI (uU fi se hd nb mk k) := fun k hk => by
    have := g5.2.1 k (by rw [eU]; exact hk)
    rw [eU] at this
    exact this
  obtain ⟨x2, p1, p2, p3, p4, p5⟩ := f_em (us := uU fi se hd nb mk) (sp := sp) (cx_keep hcx g2 (by decide) (by decide) (by decide) (by decide) (by decide)) (fun d hd => by rw [g2.2.2.1 11 (by decide)]; exact h11 d hd) hu.1 hx5 hx15 hu.2.1
  rw [p1, bd1_s]
  have hAD : ∀ j, j ≤ nU fi se hd nb mk → _ := fun j hj => AU_D (pt := pt) hbr hu hj
  obtain ⟨r, x3, k1, k2, k3⟩ := f_wk (A := AU pt fi se st sp (uU fi se hd nb mk) nb) hu.1 (fun j hj => by have := hAD j hj; omega) p3 p5
  rw [k1, bd2_s]
  -- the reference
  obtain ⟨y1, v1, v2, v3⟩ := f_mm (sp := sp) hrxw h99w
  rw [v1, bd1_s]
  have hy3 : y1.1 3 = nI (nU fi se hd nb mk) := by rw [v2.1 3 (by decide)]; exact m7
  have hdx : dxx y1 (nU fi se hd nb mk) (uU fi se hd nb mk) (KI pt fi se st sp nb) (fun i => (y1.2.2.2 14 i).toInt) := dxx_of hbr hu (fun i hi => by rw [v2.2.2.1 12 (by decide)]; exact m8 i hi) v3 (fun i _ => ⟨jl_of _, by have := Int64.le_toInt (y1.2.2.2 14 i); omega, by have := Int64.toInt_lt (y1.2.2.2 14 i); omega⟩)
  have frw : fr [2, 3] [] [11, 12, 13] [15] y1 z2 := fr_tr (fr_w v2 (by decide) (by decide) (by decide) (by decide)) (fr_w m2 (by decide) (by decide) (by decide) (by decide))
  have hnc : ∀ k, 1 ≤ k → k ≤ 10 → k ∉ [11, 12, 13] := fun k q1 q2 m => by have : ∀ x ∈ [11, 12, 13], 10 < x := (by decide); have := this _ m; omega
  have frx : fr [3, 4, 5, 6] [] [12, 13, 14, 15] (20 :: 21 :: 22 :: 23 :: r3242) x3 z1 := fr_tr (fr_w k2 (by decide) (by decide) (by decide) (by decide)) (fr_tr (fr_w p2 (by decide) (by decide) (by decide) (by decide)) (fr_w g2 (by decide) (by decide) (by decide) (by decide)))
  have hbx : iv_b x3 z2 mk nb pt fi se st hd sp ha ld := ivb_1 hb frx (by decide) (by decide) (fun k q1 q2 m => by have : ∀ x ∈ [12, 13, 14, 15], 11 < x := (by decide); have := this _ m; omega) (fun k q m => by have : ∀ x ∈ [12, 13, 14, 15], x < 28 := (by decide); have := this _ m; omega)
  have hx0 : x3.1 0 = 0 := by rw [frx.1 0 (by decide)]; exact s1
  rw [hy3]
  have hdN := hAD _ (Nat.le_refl _)
  rcases k3 with ⟨k, kn, rfl, kd, kz⟩ | ⟨rfl, kd, kp⟩
  · -- not firm
    have hdt : dt (nU fi se hd nb mk) (AU pt fi se st sp (uU fi se hd nb mk) nb) = 0 := lk_zero (AU_sym _ _ _ _ _ _ _ _) (AU_rp hu (Nat.le_refl _)) (show k + 1 ≤ nU fi se hd nb mk by omega) kz (kd k (Nat.le_refl _))
    obtain ⟨y2, u1, u2⟩ := f_det (col := -1) (us := uU fi se hd nb mk) (K := KI pt fi se st sp nb) (A := AU pt fi se st sp (uU fi se hd nb mk) nb) hu.1 (col_m1 (fun i j => rfl) hu.1) hdx (by rw [hdt]; decide) (by rw [hdt]; decide)
    rw [u1, bd2_s, if_neg (nI_pos (by have := hu.1; omega)), hdt, if_pos (show lg_cmp (jl 0) 0 = 0 from (lg_cmp_eq _ _).mpr rfl)]
    have hu10 := hu.1
    obtain ⟨y3, l1, l2⟩ := lp_74 (us := uU fi se hd nb mk) (K := KI pt fi se st sp nb) (A := AU pt fi se st sp (uU fi se hd nb mk) nb) hu.1 kn (fun i j => rfl) hAD kd kz k 200 1 y2 (by omega) (by omega) (by rw [u2.1 3 (by decide)]; exact hy3) (dxx_keep hdx u2)
    have l1' : l_M_solve_74 200 y2 1 = some (0, nI (k + 1), y3) := l1
    rw [l1', bd3_s, if_pos rfl, wk_eq k (by omega)]
    have fry : fr [2, 3] [] [11, 12, 13] [15] y3 z2 := fr_tr (fr_w l2 (by decide) (by decide) (by decide) (by decide)) (fr_tr (fr_w u2 (by decide) (by decide) (by decide) (by decide)) frw)
    exact ⟨_, x3, y3, rfl, rfl, mk, nb, pt, fi, se, st, hd, sp, ha, ld, ivb_2 hbx fry (by decide) hnc, Or.inl ⟨hx0, by rw [fry.1 1 (by decide)]; exact s2⟩⟩
  · -- firm
    have hdt : pd_D (AU pt fi se st sp (uU fi se hd nb mk) nb) (List.range (nU fi se hd nb mk)) = dt (nU fi se hd nb mk) (AU pt fi se st sp (uU fi se hd nb mk) nb) := lk_D _ (fun i hi => kd i (by omega))
    have hne := kd _ (Nat.le_refl _)
    rw [hdt] at hdN hne
    obtain ⟨y2, u1, u2⟩ := f_det (col := -1) (us := uU fi se hd nb mk) (K := KI pt fi se st sp nb) (A := AU pt fi se st sp (uU fi se hd nb mk) nb) hu.1 (col_m1 (fun i j => rfl) hu.1) hdx (by omega) (by omega)
    rw [u1, bd2_s, if_pos (by decide), if_neg (fun c => hne ((jl_z (by omega) (by omega)).mp ((lg_cmp_eq _ _).mp c))), let_s, let_s, si_ne _ _ (by decide), si_ne _ _ (by decide)]
    have fry : fr [2, 3] [] [11, 12, 13] [15] y2 z2 := fr_tr (fr_w u2 (by decide) (by decide) (by decide) (by decide)) frw
    have hy23 : y2.1 3 = nI (nU fi se hd nb mk) := by rw [u2.1 3 (by decide)]; exact hy3
    have hx35 : x3.1 5 = nI (nU fi se hd nb mk) := by rw [k2.1 5 (by decide), p2.1 5 (by decide)]; exact hx5
    rw [hy23, hx35]
    refine ⟨_, s_i x3 0 1, s_i y2 1 1, rfl, rfl, mk, nb, pt, fi, se, st, hd, sp, ha, ld, ?_, Or.inr ⟨by rw [si_self], by rw [si_self], ?_⟩⟩
    · exact ivb_1 (ivb_2 (ivb_2 hbx fry (by decide) hnc) (fr_i (a := [1]) (b := []) (c := []) (d := []) y2 1 (by decide)) (by decide) (fun k _ _ => List.not_mem_nil)) (fr_i (a := [0]) (b := []) (c := []) (d := []) x3 1 (by decide)) (by decide) (by decide) (fun k _ _ => List.not_mem_nil) (fun k _ => List.not_mem_nil)
    · refine SK_keep (y := x3) ?_ (fr_i (a := [0]) (b := []) (c := []) (d := []) x3 1 (by decide)) (by decide) (by decide) (by decide) (by decide) (by decide) (by decide) (by decide) (fun k _ => List.not_mem_nil) (fun k _ => List.not_mem_nil) hu.1
      have b32 : ∀ q, q + 32 ∉ [20, 21, 22, 23] := fun q m => by have : ∀ x ∈ [20, 21, 22, 23], x < 32 := (by decide); have := this _ m; omega
      have b42 : ∀ q, q + 42 ∉ [20, 21, 22, 23] := fun q m => by have : ∀ x ∈ [20, 21, 22, 23], x < 42 := (by decide); have := this _ m; omega
      refine ⟨q0, hgood, by rw [k2.1 3 (by decide), p2.1 3 (by decide)]; exact g3, fun i hi => by rw [k2.2.2.1 12 (by decide), p2.2.2.1 12 (by decide)]; exact g4 i hi, ⟨by rw [k2.1 5 (by decide), p2.1 5 (by decide)]; exact g5.1, fun i hi => by rw [k2.2.2.1 15 (by decide), p2.2.2.1 15 (by decide)]; exact g5.2.1 i hi, fun j hj => by rw [k2.2.2.1 14 (by decide), p2.2.2.1 14 (by decide)]; exact g5.2.2 j hj⟩, by rw [k2.1 6 (by decide)]; exact p3, fun k hk c hc => by rw [k2.2.2.2 _ (b32 k)]; exact p4 k hk c hc, fun l hl k hk => by rw [k2.2.2.2 _ (b42 l)]; exact p5 l hl k hk, kd, kp⟩
