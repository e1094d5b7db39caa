theorem ok_reaction {z1 z2 : gS} {p1 p2 p3 p4 : Int32} (h : iv SKd z1 z2) : ∃ r w1 w2, f_S_reaction z1 p1 p2 p3 p4 = some (r, w1) ∧ f_M_reaction z2 p1 p2 p3 p4 = some (r, w2) ∧ iv SKd w1 w2 := by
  obtain ⟨mk, nb, pt, fi, se, st, hd, sp, ha, ld, hb, hs⟩ := id h
  unfold f_S_reaction f_M_reaction
  rcases hs with ⟨s1, s2⟩ | ⟨s1, s2, s3⟩
  · rw [s2, if_pos rfl]
    rcases gd_case p1 with ⟨k1, k2⟩ | ⟨c, hc, rfl, k1, k2⟩
    · rw [k1, bd2_s, if_pos rfl]
      exact ⟨_, z1, z2, rfl, rfl, h⟩
    · unfold f_S_isAnswerable
      rw [k1, bd2_s, if_neg (by decide), s1, if_pos rfl, bd2_s, if_pos rfl]
      exact ⟨_, z1, z2, rfl, rfl, h⟩
  rw [s2, if_neg (by decide)]
  rcases gd_case p1 with ⟨k1, k2⟩ | ⟨c, hc, rfl, k1, k2⟩
  · rw [k1, k2, bd2_s, bd2_s, if_pos rfl, if_neg (by decide)]
    exact ⟨_, z1, z2, rfl, rfl, h⟩
  rw [k1, k2, bd2_s, bd2_s, if_neg (by decide), if_pos rfl]
  obtain ⟨hk, t1, hcx, hrx, hrb, hth, h9, h7, h11, h99, hbr, hbb⟩ := ctx_of hb
  have hrq := rq_of hb
  rcases ans_sp hb s1 p2 p3 p4 with ⟨a1, a2⟩ | ⟨n, d, hn, hd2, rfl, rfl, hbit, a1, n2, d2, e2⟩
  · rw [a1, bd2_s, if_pos rfl]
    rcases a2 with n2 | ⟨n, hn, rfl, n2, a2⟩
    · rw [n2, bd2_s, if_neg (by decide)]
      exact ⟨_, z1, z2, rfl, rfl, h⟩
    rw [n2, bd2_s, if_pos rfl, if_neg (ck_in hn (by decide)), nI_clamp (show n < 2 ^ 31 by omega), hth n hn, show mk / 2 ^ n % 2 = bt5 mk n from rfl]
    rcases a2 with q | ⟨q, a2⟩
    · rw [q, if_pos (show nI 0 = 0 from rfl)]
      exact ⟨_, z1, z2, rfl, rfl, h⟩
    rw [q, if_neg (show ¬ nI 1 = 0 by decide)]
    rcases a2 with d2 | ⟨d2, e2⟩
    · rw [d2, bd2_s, if_neg (by decide)]
      exact ⟨_, z1, z2, rfl, rfl, h⟩
    · rw [d2, bd2_s, if_pos rfl, e2, bd2_s, if_neg (by decide)]
      exact ⟨_, z1, z2, rfl, rfl, h⟩
  have hs10 : n * 2 + d < 10 := by omega
  have c1 := ck_in hs10 (by decide)
  have c2 := ck_in (show c * 10 + (n * 2 + d) < 40 by omega) (by decide)
  rw [a1, bd2_s, if_neg (by decide), f_slot, bd2_s, if_neg c1, nI_clamp (show n * 2 + d < 2 ^ 31 by omega), (h9 _ hs10).1]
  rw [n2, bd2_s, if_pos rfl, if_neg (ck_in hn (by decide)), nI_clamp (show n < 2 ^ 31 by omega), hth n hn, show mk / 2 ^ n % 2 = bt5 mk n from rfl, hbit, if_neg (show ¬ nI 1 = 0 by decide), d2, bd2_s, if_pos rfl, e2, bd2_s, if_pos rfl]
  simp only [sl_of, sl10, let_s, if_neg c1, if_neg c2]
  rw [nI_clamp (show n * 2 + d < 2 ^ 31 by omega), nI_clamp (show c * 10 + (n * 2 + d) < 2 ^ 31 by omega), (h7 _ hs10).1]
  by_cases q : hd (n * 2 + d) = 0
  · rw [q, if_pos (show nI 0 = 0 from rfl), if_pos (show nI 0 = 0 from rfl)]
    exact ⟨_, z1, z2, rfl, rfl, h⟩
  have hd1 := (h7 _ hs10).2
  rw [if_neg (nI_ne0 (by omega) (by omega)), if_neg (nI_ne0 (by omega) (by omega))]
  obtain ⟨b1, b2, b3⟩ := hrq.1 _ hs10
  obtain ⟨l1, l2, l3⟩ := hrq.2.1 c hc _ hs10
  obtain ⟨p1, p2⟩ := h99 _ hs10
  obtain ⟨z, x1, x2, x3⟩ := f_cc (z := z1) hc
  obtain ⟨z', N, r1, r2, r3, r4, r5, r6, r7, r8⟩ := core_num hb s3 _ x2 x3
  obtain ⟨_, _, _, _, _, d0, d9, _⟩ := sealF hb s3
  have hKr : ∀ k, k < 10 → z'.2.2.2 (n * 2 + d + 32) k = jl (KI pt fi se st sp nb (n * 2 + d) k) := fun k hk => by
    rw [r2.2.2.2 _ (b23 (n * 2 + d) 32 (by decide))]
    exact s3.2.2.2.2.2.2.1 _ hs10 k hk
  -- the program's numerator
  have hnum : f_R_reactionNumerator_3 z' (nI (n * 2 + d)) = some (jl (- (ld c (n * 2 + d)) * DD mk nb pt fi se st hd sp + ((sp (n * 2 + d) : Int) * N (n * 2 + d) + mx_sum (List.range nb) (fun i => sbI pt fi se i (n * 2 + d) * FN pt fi se st N i))), z') := by
    unfold f_R_reactionNumerator_3
    have e := lp_rn (z := z') (K := KI pt fi se st sp nb) (x := - (ld c (n * 2 + d)) * DD mk nb pt fi se st hd sp) hs10 hKr r6 10 200 0 rfl (by decide)
    have e' : l_R_reactionNumerator_3_16 200 z' (nI (n * 2 + d)) (jl (- (ld c (n * 2 + d)) * DD mk nb pt fi se st hd sp)) 0 = some (jl (- (ld c (n * 2 + d)) * DD mk nb pt fi se st hd sp + mx_sum (List.range 10) (fun o => KI pt fi se st sp nb (n * 2 + d) o * N o)), z') := by
      have e0 : - (ld c (n * 2 + d)) * DD mk nb pt fi se st hd sp + mx_sum (List.range 0) (fun o => KI pt fi se st sp nb (n * 2 + d) o * N o) = - (ld c (n * 2 + d)) * DD mk nb pt fi se st hd sp := Int.add_zero _
      rw [e0] at e
      exact e
    rw [if_neg c1, let_s, nI_clamp (show n * 2 + d < 2 ^ 31 by omega), r5 _ hs10, r4, LS_1 hc, jl_neg, jl_mul, e', bd2_s, K_N pt fi se st sp N hs10 nb]
  have hNs := r7 _ hs10 q
  rw [HS_1 hc] at hNs
  -- the reference's numerator
  obtain ⟨w1, m1, m2⟩ := f_mdt hb s3 s2
  have m1' : f_M_determinant z2 = some (jl (DD mk nb pt fi se st hd sp), w1) := m1
  have m2' := frR_w m2
  have hnb := hcx.1
  obtain ⟨w2, g1, g2⟩ := lp_rc (N := N) (x := ((sp (n * 2 + d) : Int) * ha (n * 2 + d) - ld c (n * 2 + d)) * DD mk nb pt fi se st hd sp) (P := p4) r8 (good_th s3.2.1) hn hd2 nb 200 0 w1 (by omega) (by omega) (ivb_r hb m2')
  have hw2 := fr_tr g2 m2'
  obtain ⟨w3, m3, m4⟩ := f_mdt (ivb_r hb hw2) s3 (frR_1 hw2 s2)
  have m3' : f_M_determinant w2 = some (jl (DD mk nb pt fi se st hd sp), w3) := m3
  have hw3 := fr_tr (frR_w m4) hw2
  have g1' : l_M_reaction_119 200 w1 (nI c) (nI n) (nI d) p4 (jl (((sp (n * 2 + d) : Int) * ha (n * 2 + d) - ld c (n * 2 + d)) * DD mk nb pt fi se st hd sp)) 0 = some (p4, jl (((sp (n * 2 + d) : Int) * ha (n * 2 + d) - ld c (n * 2 + d)) * DD mk nb pt fi se st hd sp + mx_sum (List.range nb) (fun i => sbI pt fi se i (n * 2 + d) * FN pt fi se st N i)), w2) := by
    have e0 : ((sp (n * 2 + d) : Int) * ha (n * 2 + d) - ld c (n * 2 + d)) * DD mk nb pt fi se st hd sp + mx_sum (List.range 0) (fun i => sbI pt fi se i (n * 2 + d) * FN pt fi se st N i) = ((sp (n * 2 + d) : Int) * ha (n * 2 + d) - ld c (n * 2 + d)) * DD mk nb pt fi se st hd sp := Int.add_zero _
    rw [e0] at g1
    exact g1
  have eq : jl (- (ld c (n * 2 + d)) * DD mk nb pt fi se st hd sp + ((sp (n * 2 + d) : Int) * N (n * 2 + d) + mx_sum (List.range nb) (fun i => sbI pt fi se i (n * 2 + d) * FN pt fi se st N i))) = jl (((sp (n * 2 + d) : Int) * ha (n * 2 + d) - ld c (n * 2 + d)) * DD mk nb pt fi se st hd sp + mx_sum (List.range nb) (fun i => sbI pt fi se i (n * 2 + d) * FN pt fi se st N i)) := by
    rw [← jl_add, ← jl_add, ← jl_mul (sp (n * 2 + d) : Int), hNs, jl_mul, jl_add, jl_add]
    congr 1
    grind
  rw [eq] at hnum
  rw [x1, bd1_s, r1, bd1_s, hnum, bd2_s]
  obtain ⟨r, w4, y1, y2, y3⟩ := f_frac (z := z') (w := w3) (num := jl (((sp (n * 2 + d) : Int) * ha (n * 2 + d) - ld c (n * 2 + d)) * DD mk nb pt fi se st hd sp + mx_sum (List.range nb) (fun i => sbI pt fi se i (n * 2 + d) * FN pt fi se st N i))) (part := p4) d0 d9 r3
  have y2' : f_M_fraction w3 (jl (((sp (n * 2 + d) : Int) * ha (n * 2 + d) - ld c (n * 2 + d)) * DD mk nb pt fi se st hd sp + mx_sum (List.range nb) (fun i => sbI pt fi se i (n * 2 + d) * FN pt fi se st N i))) (jl (DD mk nb pt fi se st hd sp)) p4 = some (r, w4) := y2
  rw [y1, bd2_s, m1', bd2_s, p1, b1, l1, jl_n (by omega), jl_i (by omega) (by omega), jl_i (by omega) (by omega), jl_mul, jl_sub, jl_mul, g1', bd3_s, m3', bd2_s, y2', bd2_s]
  exact ⟨r, z', w4, rfl, rfl, iv_q hb s3 s1 s2 r2 (fr_tr (fr_w y3 (by decide) (by decide) (by decide) (by decide)) hw3)⟩
/-! order, unknown, count -/
theorem ok_order {z1 z2 : gS} {p1 : Int32} (h : iv SKd z1 z2) : ∃ r w1 w2, f_S_order z1 p1 = some (r, w1) ∧ f_M_order z2 p1 = some (r, w2) ∧ iv SKd w1 w2 := by
  obtain ⟨mk, nb, pt, fi, se, st, hd, sp, ha, ld, hb, hs⟩ := id h
  unfold f_S_order f_M_order
  rcases hs with ⟨s1, s2⟩ | ⟨s1, s2, s3⟩
  · rw [s1, s2, if_pos rfl, if_pos rfl]
    exact ⟨_, z1, z2, rfl, rfl, h⟩
  rw [s1, s2, if_neg c_one, if_neg c_one]
  obtain ⟨hk, t1, hcx, hrx, hrb, hth, h9, h7, h11, h99, hbr, hbb⟩ := ctx_of hb
  obtain ⟨hF, _⟩ := sealF hb s3
  by_cases q : p1 < 0
  · rw [if_pos q, if_neg (fun e => by rw [Int32.le_iff_toInt_le] at e; rw [Int32.lt_iff_toInt_lt] at q; omega)]
    exact ⟨_, z1, z2, rfl, rfl, h⟩
  obtain ⟨i, hi, rfl⟩ := nI_of q
  rw [if_neg q, if_pos (nI_pos' hi)]
  obtain ⟨w, m1, m2, m3, m4, m5, m6, m7, m8⟩ := f_mo (hd := hd) hrb hk hth h7
  have frw : frR w z2 := fr_w m2 (by decide) (by decide) (by decide) (by decide)
  have hp5 := pcb_le mk
  rw [m1, bd1_s, s3.2.2.1, m5, hF.1]
  have hiv := iv_q hb s3 s1 s2 (fr_rf _ _ _ _ z1) frw
  by_cases q2 : i < pcb mk
  · have c1 := ck_in (show i < 5 by omega) (by decide)
    rw [if_pos (nI_lt q2 (by omega)), if_neg c1, if_neg (nI_ge q2 (by omega)), if_neg c1, nI_clamp hi, s3.2.2.2.1 i q2, (m6 i (by rw [hF.1]; exact q2)).1]
    exact ⟨_, z1, w, rfl, rfl, hiv⟩
  · rw [if_neg (nI_nlt (show pcb mk ≤ i by omega) hi), if_pos (nI_le (show pcb mk ≤ i by omega) hi)]
    exact ⟨_, z1, w, rfl, rfl, hiv⟩
theorem lp_uk {z : gS} {n s : Nat} {us : Nat → Nat} {X Y : Int32} (hn : n ≤ 10) (h3 : z.1 3 = nI n) (h12 : ∀ i, i < n → z.2.2.1 12 i = nI (us i) ∧ us i < 10) (hs : s < 10) (hx : X * (2 : Int32) + Y = nI s) : ∀ (g f i : Nat), i + g = n → g < f → (∀ k, k < i → us k ≠ s) → ∃ e k, l_M_unknown_42 f z X Y (nI i) = some (e, nI k, z) ∧ ((e = 0 ∧ k < n ∧ us k = s) ∨ (e = 1 ∧ ∀ k, k < n → us k ≠ s))
  | 0, f + 1, i, hg, hf, h0 => by
    have : i = n := by omega
    subst this
    rw [l_M_unknown_42, h3, if_pos (nI_le (Nat.le_refl _) (by omega))]
    exact ⟨1, i, rfl, Or.inr ⟨rfl, h0⟩⟩
  | g + 1, f + 1, i, hg, hf, h0 => by
    have hi : i < n := by omega
    have c1 := ck_in (show i < 10 by omega) (by decide)
    obtain ⟨a1, a2⟩ := h12 i hi
    rw [l_M_unknown_42, h3, if_neg (nI_ge hi (by omega)), if_neg c1, nI_clamp (show i < 2 ^ 31 by omega), a1, hx, nI_1]
    by_cases q : us i = s
    · rw [if_pos (by rw [q])]
      exact ⟨0, i, rfl, Or.inl ⟨rfl, hi, q⟩⟩
    · rw [if_neg (fun e => q ((nI_eq (by omega) (by omega)).mp e))]
      exact lp_uk hn h3 h12 hs hx g f (i + 1) (by omega) (by omega) (fun k hk => by
        by_cases e : k = i
        · rw [e]; exact q
        · exact h0 k (by omega))
theorem ok_unknown {z1 z2 : gS} {p1 p2 : Int32} (h : iv SKd z1 z2) : ∃ r w1 w2, f_S_unknown z1 p1 p2 = some (r, w1) ∧ f_M_unknown z2 p1 p2 = some (r, w2) ∧ iv SKd w1 w2 := by
  obtain ⟨mk, nb, pt, fi, se, st, hd, sp, ha, ld, hb, hs⟩ := id h
  unfold f_S_unknown f_M_unknown f_S_isNodeThere
  rcases hs with ⟨s1, s2⟩ | ⟨s1, s2, s3⟩
  · rw [s1, s2, if_pos rfl, if_pos rfl]
    exact ⟨_, z1, z2, rfl, rfl, h⟩
  rw [s1, s2, if_neg c_one, if_neg c_one]
  obtain ⟨hk, t1, hcx, hrx, hrb, hth, h9, h7, h11, h99, hbr, hbb⟩ := ctx_of hb
  obtain ⟨hF, hu, hu2, hu3, _⟩ := sealF hb s3
  rcases gd_node p1 with ⟨n1, n2⟩ | ⟨n, hn, rfl, n1, n2⟩
  · rw [n1, n2, bd2_s, bd2_s, if_pos rfl, if_neg (by decide), bd2_s, if_pos rfl]
    exact ⟨_, z1, z2, rfl, rfl, h⟩
  rw [n1, n2, bd2_s, bd2_s, if_neg (by decide), if_pos rfl, f_there t1 hk hn, bd2_s, if_neg (ck_in hn (by decide)), nI_clamp (show n < 2 ^ 31 by omega), hth n hn, show mk / 2 ^ n % 2 = bt5 mk n from rfl]
  rcases bt5_01 mk n with q | q
  · rw [q, if_pos (show nI 0 = 0 from rfl), if_pos (show nI 0 = 0 from rfl), bd2_s, if_pos rfl]
    exact ⟨_, z1, z2, rfl, rfl, h⟩
  rw [q, if_neg (show ¬ nI 1 = 0 by decide), if_neg (show ¬ nI 1 = 0 by decide), bd2_s, if_neg (by decide)]
  rcases gd_dir p2 with ⟨d1, d2⟩ | ⟨d, hd2, rfl, d1, d2⟩
  · rw [d1, d2, bd2_s, bd2_s, if_pos rfl, if_neg (by decide)]
    exact ⟨_, z1, z2, rfl, rfl, h⟩
  have hs10 : n * 2 + d < 10 := by omega
  have c1 := ck_in hs10 (by decide)
  rw [d1, d2, bd2_s, bd2_s, if_neg (by decide), if_pos rfl, f_slot, bd2_s, if_neg c1, nI_clamp (show n * 2 + d < 2 ^ 31 by omega)]
  obtain ⟨w, m1, m2, m3, m4, m5, m6, m7, m8⟩ := f_mo (hd := hd) hrb hk hth h7
  have frw : frR w z2 := fr_w m2 (by decide) (by decide) (by decide) (by decide)
  have hiv := iv_q hb s3 s1 s2 (fr_rf _ _ _ _ z1) frw
  have hn10 := hu.1
  obtain ⟨e, k, u1, u2⟩ := lp_uk (us := uU fi se hd nb mk) hu.1 m7 (fun i hi => ⟨m8 i hi, hu.2.1 i hi⟩) hs10 (sl_of n d) (nU fi se hd nb mk) 200 0 (by omega) (by omega) (fun k hk => absurd hk (Nat.not_lt_zero k))
  have u1' : l_M_unknown_42 200 w (nI n) (nI d) 0 = some (e, nI k, w) := u1
  rw [m1, bd1_s, u1', bd3_s]
  -- where the program has it
  have eU : uS (ndR fi se nb mk) hd (2 * pcb mk) = (nU fi se hd nb mk, uU fi se hd nb mk) := by unfold nU uU; rw [hF.1]
  obtain ⟨j, j1, j2⟩ := hF.2.2.2 n hn q
  have es : sl2 (ndR fi se nb mk) (2 * j + d) = n * 2 + d := by
    unfold sl2
    rw [show (2 * j + d) / 2 = j by omega, show (2 * j + d) % 2 = d by omega, j2]
  have hN := s3.2.2.2.2.1.2.2 (2 * j + d) (by omega)
  rw [es, eU] at hN
  rcases hN with ⟨v1, i, v2, v3, v4⟩ | ⟨v1, v2⟩
  · rcases u2 with ⟨rfl, u3, u4⟩ | ⟨rfl, u3⟩
    · rw [if_pos rfl, v4, us_eq hu v2 u3 (v3.trans u4.symm)]
      exact ⟨_, z1, w, rfl, rfl, hiv⟩
    · exact absurd v3 (u3 i v2)
  · rcases u2 with ⟨rfl, u3, u4⟩ | ⟨rfl, u3⟩
    · exact absurd (by rw [← u4]; exact hu2 k u3) v1
    · rw [if_neg (by decide), v2]
      exact ⟨_, z1, w, rfl, rfl, hiv⟩
/-! count -/
def nzB (A : Nat → Nat → Int) (i : Nat) : Nat → Bool := fun j => decide (A i j ≠ 0)
theorem lp_p14 {z : gS} {n i : Nat} {A : Nat → Nat → Int} {x : Int32} (hn : n ≤ 10) (hi : i < n) (hA : ∀ q, q < n → z.2.2.2 (i + 42) q = jl (A i q) ∧ -1000 ≤ A i q ∧ A i q ≤ 1000) : ∀ (g f j : Nat), j + g = i → g < f → l_E_profile_14 f z x (nI i) (nI j) = some (x, nI i, nI (fbS (nzB A i) g j), z)
  | 0, f + 1, j, hg, hf => by
    have : j = i := by omega
    subst this
    rw [l_E_profile_14, if_pos (nI_le (Nat.le_refl _) (by omega))]
    rfl
  | g + 1, f + 1, j, hg, hf => by
    have c1 := ck_in (show i < 10 by omega) (by decide)
    have c2 := ck_in (show j < 10 by omega) (by decide)
    obtain ⟨a1, a2, a3⟩ := hA j (by omega)
    rw [l_E_profile_14, if_neg (nI_ge (show j < i by omega) (by omega)), if_neg c1, if_neg c2, nI_clamp (show i < 2 ^ 31 by omega), nI_clamp (show j < 2 ^ 31 by omega), a1, nI_1, show fbS (nzB A i) (g + 1) j = (if nzB A i j = true then j else fbS (nzB A i) g (j + 1)) from rfl]
    by_cases q : A i j = 0
    · rw [if_pos ((lg_cmp_eq _ _).mpr (by rw [q]; rfl)), if_neg (by unfold nzB; simp [q])]
      exact lp_p14 hn hi hA g f (j + 1) (by omega) (by omega)
    · rw [if_neg (fun e => q ((jl_z (by omega) (by omega)).mp ((lg_cmp_eq _ _).mp e))), if_pos (by unfold nzB; simp [q])]
/-- the profile -/
def pfS (A : Nat → Nat → Int) : Nat → Nat
  | 0 => 0
  | i + 1 => pfS A i + (i - fbS (nzB A i) i 0)
theorem pf_le (A : Nat → Nat → Int) : ∀ i, i ≤ 10 → pfS A i ≤ 10 * i
  | 0, _ => Nat.le_refl 0
  | i + 1, h => by
    have := pf_le A i (by omega)
    show pfS A i + (i - fbS (nzB A i) i 0) ≤ 10 * (i + 1)
    omega
theorem lp_p4 {z : gS} {n : Nat} {A : Nat → Nat → Int} (hn : n ≤ 10) (h6 : z.1 6 = nI n) (hA : ∀ i, i < n → ∀ q, q < n → z.2.2.2 (i + 42) q = jl (A i q) ∧ -1000 ≤ A i q ∧ A i q ≤ 1000) : ∀ (g f i : Nat), i + g = n → g < f → l_E_profile_4 f z (nI (pfS A i)) (nI i) = some (nI (pfS A n), z)
  | 0, f + 1, i, hg, hf => by
    have : i = n := by omega
    subst this
    rw [l_E_profile_4, h6, if_pos (nI_le (Nat.le_refl _) (by omega))]
  | g + 1, f + 1, i, hg, hf => by
    have hi : i < n := by omega
    have e := lp_p14 (x := nI (pfS A i)) hn hi (hA i hi) i 200 0 (by omega) (by omega)
    have e' : l_E_profile_14 200 z (nI (pfS A i)) (nI i) 0 = some (nI (pfS A i), nI i, nI (fbS (nzB A i) i 0), z) := e
    have hle := (fbS_le (nzB A i) i 0).2.1
    rw [l_E_profile_4, h6, if_neg (nI_ge hi (by omega)), e', bd4_s, let_s, pk_sub (by omega), nI_add, nI_1]
    exact lp_p4 hn h6 hA g f (i + 1) (by omega) (by omega)
theorem lp_p21 {z : gS} {n i : Nat} {us : Nat → Nat} {K : Nat → Nat → Int} {x : Int32} (hi : i < n) (hx : dxx z n us K (fun j => (z.2.2.2 14 j).toInt)) (hn : n ≤ 10) : ∀ (g f v : Nat), g ≤ i + 1 → g < f → v = fbS (nzB (fun a b => K (us a) (us b)) i) (i - g) (if g ≤ i then g else i) → l_M_profile_21 f z x (nI i) (nI v) (pmI g) = some (x, nI i, nI (fbS (nzB (fun a b => K (us a) (us b)) i) i 0), z)
  | 0, f + 1, v, hg, hf, hv => by
    rw [l_M_profile_21, if_pos (show pmI 0 < 0 by decide), hv, if_pos (Nat.zero_le i), Nat.sub_zero]
  | g + 1, f + 1, v, hg, hf, hv => by
    have c1 := ck_in (show i < 10 by omega) (by decide)
    have c2 := ck_in (show g < 10 by omega) (by decide)
    obtain ⟨u1, u2⟩ := hx.1 i hi
    obtain ⟨v1, v2⟩ := hx.1 g (by omega)
    have c3 := ck_in (show us i * 10 + us g < 100 by omega) (by decide)
    have hK := hx.2.2.1 _ u2 _ v2
    have eK : z.2.2.1 13 (us i * 10 + us g) = iI (K (us i) (us g)) := by rw [hx.2.1 _ (show us i * 10 + us g < 100 by omega), show (us i * 10 + us g) / 10 = us i by omega, show (us i * 10 + us g) % 10 = us g by omega]
    have es : fbS (nzB (fun a b => K (us a) (us b)) i) (i - g) (if g ≤ i then g else i) = if nzB (fun a b => K (us a) (us b)) i g = true then g else v := by
      rw [if_pos (show g ≤ i by omega)]
      by_cases e : g = i
      · have hv0 : v = i := by
          rw [hv, e, if_neg (show ¬ i + 1 ≤ i by omega), show i - (i + 1) = 0 by omega]
          rfl
        rw [e, Nat.sub_self, hv0]
        show i = _
        by_cases q : nzB (fun a b => K (us a) (us b)) i i = true
        · rw [if_pos q]
        · rw [if_neg q]
      · rw [hv, if_pos (show g + 1 ≤ i by omega), show i - g = (i - (g + 1)) + 1 by omega]
        rfl
    rw [l_M_profile_21, if_neg (show ¬ pmI (g + 1) < 0 from nI_pos (by omega)), show pmI (g + 1) = nI g from rfl]
    simp only [if_neg c1, if_neg c2]
    rw [nI_clamp (show i < 2 ^ 31 by omega), nI_clamp (show g < 2 ^ 31 by omega), u1, v1, sl10, if_neg c3, nI_clamp (show us i * 10 + us g < 2 ^ 31 by omega), eK, pm_1]
    by_cases q : K (us i) (us g) = 0
    · rw [if_pos ((iI_z (by omega) (by omega)).mpr q)]
      exact lp_p21 hi hx hn g f v (by omega) (by omega) (by rw [es, if_neg (by unfold nzB; simp [q])])
    · rw [if_neg (fun e => q ((iI_z (by omega) (by omega)).mp e))]
      exact lp_p21 hi hx hn g f g (by omega) (by omega) (by rw [es, if_pos (by unfold nzB; simp [q])])
theorem lp_p8 {z : gS} {n : Nat} {us : Nat → Nat} {K : Nat → Nat → Int} (hn : n ≤ 10) (h3 : z.1 3 = nI n) (hx : dxx z n us K (fun j => (z.2.2.2 14 j).toInt)) : ∀ (g f i : Nat), i + g = n → g < f → l_M_profile_8 f z (nI (pfS (fun a b => K (us a) (us b)) i)) (nI i) = some (nI (pfS (fun a b => K (us a) (us b)) n), z)
  | 0, f + 1, i, hg, hf => by
    have : i = n := by omega
    subst this
    rw [l_M_profile_8, h3, if_pos (nI_le (Nat.le_refl _) (by omega))]
  | g + 1, f + 1, i, hg, hf => by
    have hi : i < n := by omega
    have e := lp_p21 (x := nI (pfS (fun a b => K (us a) (us b)) i)) hi hx hn (i + 1) 200 i (Nat.le_refl _) (by omega) (by rw [if_neg (by omega), show i - (i + 1) = 0 by omega]; rfl)
    have e' : l_M_profile_21 200 z (nI (pfS (fun a b => K (us a) (us b)) i)) (nI i) (nI i) (nI i) = some (nI (pfS (fun a b => K (us a) (us b)) i), nI i, nI (fbS (nzB (fun a b => K (us a) (us b)) i) i 0), z) := e
    have hle := (fbS_le (nzB (fun a b => K (us a) (us b)) i) i 0).2.1
    rw [l_M_profile_8, h3, if_neg (nI_ge hi (by omega)), e', bd4_s, let_s, pk_sub (by omega), nI_add, nI_1]
    exact lp_p8 hn h3 hx g f (i + 1) (by omega) (by omega)
theorem lp_c47 {z : gS} {mk : Nat} (ht : b_th (z.2.2.1 1) mk) : ∀ (g f j k : Nat), j + g = 5 → g < f → l_M_count_47 f z (nI k) (nI j) = some (nI (k + sbt mk g j), z)
  | 0, f + 1, j, k, h1, h2 => by
    have : j = 5 := by omega
    subst this
    rw [l_M_count_47, if_pos (by decide)]
    rfl
  | g + 1, f + 1, j, k, h1, h2 => by
    have hj : j < 5 := by omega
    have c1 := ck_in hj (by decide)
    rw [l_M_count_47, if_neg (show ¬ (5 : Int32) ≤ nI j from nI_ge (b := 5) hj (by decide)), if_neg c1, nI_clamp (show j < 2 ^ 31 by omega), ht j hj, nI_1, nI_1, show mk / 2 ^ j % 2 = bt5 mk j from rfl]
    show _ = some (nI (k + (bt5 mk j + sbt mk g (j + 1))), z)
    rcases bt5_01 mk j with e | e
    · rw [e, if_pos (show nI 0 = 0 from rfl), Nat.zero_add]
      exact lp_c47 ht g f (j + 1) k (by omega) (by omega)
    · rw [e, if_neg (show ¬ nI 1 = 0 by decide), ← Nat.add_assoc]
      exact lp_c47 ht g f (j + 1) (k + 1) (by omega) (by omega)
theorem ok_count {z1 z2 : gS} {p1 : Int32} (h : iv SKd z1 z2) : ∃ r w1 w2, f_S_count z1 p1 = some (r, w1) ∧ f_M_count z2 p1 = some (r, w2) ∧ iv SKd w1 w2 := by
  obtain ⟨mk, nb, pt, fi, se, st, hd, sp, ha, ld, hb, hs⟩ := id h
  obtain ⟨hk, t1, hcx, hrx, hrb, hth, h9, h7, h11, h99, hbr, hbb⟩ := ctx_of hb
  unfold f_S_count f_M_count
  rcases gd_off p1 4 (by decide) with ⟨o1, o2⟩ | ⟨j, hj, rfl, o1, o2, o3⟩
  · have o1' : f_M_off z2 p1 4 = some (1, z2) := o1 z2
    have ne : ∀ k : Nat, k < 5 → ¬ p1 = nI k := fun k hk e => by
      rw [e] at o2
      rcases o2 with o2 | o2
      · exact nI_pos (by omega) o2
      · exact nI_ge (show k < 5 by omega) (by decide) o2
    rw [o1', bd2_s, if_neg c_one, if_neg (show ¬ p1 = (0 : Int32) from ne 0 (by decide)), if_neg (show ¬ p1 = (1 : Int32) from ne 1 (by decide)), if_neg (show ¬ p1 = (2 : Int32) from ne 2 (by decide)), if_neg (show ¬ p1 = (3 : Int32) from ne 3 (by decide)), if_neg (show ¬ p1 = (4 : Int32) from ne 4 (by decide))]
    exact ⟨_, z1, z2, rfl, rfl, h⟩
  have o1' : f_M_off z2 (nI j) 4 = some (0, z2) := o1 z2
  rw [o1', bd2_s, if_pos rfl]
  have hj5 : j = 0 ∨ j = 1 ∨ j = 2 ∨ j = 3 ∨ j = 4 := by omega
  rcases hj5 with rfl | rfl | rfl | rfl | rfl
  · -- nodes
    unfold f_T_nodeCount
    have e := lp_c47 hth 5 200 0 0 rfl (by decide)
    have e' : l_M_count_47 200 z2 0 0 = some (nI (0 + sbt mk 5 0), z2) := e
    rw [if_pos (show nI 0 = (0 : Int32) from rfl), t1, f_bits z1 hk, bd2_s, bd2_s, if_neg (show ¬ nI 0 = (1 : Int32) by decide), if_neg (show ¬ nI 0 = (2 : Int32) by decide), if_pos (show nI 0 = (0 : Int32) from rfl), e', bd2_s, Nat.zero_add, sbt_5]
    exact ⟨_, z1, z2, rfl, rfl, h⟩
  · rw [if_neg (show ¬ nI 1 = (0 : Int32) by decide), if_pos (show nI 1 = (1 : Int32) from rfl), if_pos (show nI 1 = (1 : Int32) from rfl), hcx.2.1, hrx.2.1]
    exact ⟨_, z1, z2, rfl, rfl, h⟩
  · rw [if_neg (show ¬ nI 2 = (0 : Int32) by decide), if_neg (show ¬ nI 2 = (1 : Int32) by decide), if_pos (show nI 2 = (2 : Int32) from rfl), if_neg (show ¬ nI 2 = (1 : Int32) by decide), if_pos (show nI 2 = (2 : Int32) from rfl)]
    rcases hs with ⟨s1, s2⟩ | ⟨s1, s2, s3⟩
    · rw [s1, s2, if_pos rfl, if_pos rfl]
      exact ⟨_, z1, z2, rfl, rfl, h⟩
    · rw [s1, s2, if_neg c_one, if_neg c_one]
      exact ⟨_, z1, z2, rfl, rfl, h⟩
  · rw [if_neg (show ¬ nI 3 = (0 : Int32) by decide), if_neg (show ¬ nI 3 = (1 : Int32) by decide), if_neg (show ¬ nI 3 = (2 : Int32) by decide), if_pos (show nI 3 = (3 : Int32) from rfl), if_neg (show ¬ nI 3 = (1 : Int32) by decide), if_neg (show ¬ nI 3 = (2 : Int32) by decide), if_neg (show ¬ nI 3 = (0 : Int32) by decide)]
    rcases hs with ⟨s1, s2⟩ | ⟨s1, s2, s3⟩
    · rw [s1, s2, if_pos rfl, if_pos rfl]
      exact ⟨_, z1, z2, rfl, rfl, h⟩
    · obtain ⟨hF, hu, _⟩ := sealF hb s3
      obtain ⟨w, m1, m2, m3, m4, m5, m6, m7, m8⟩ := f_mo (hd := hd) hrb hk hth h7
      have frw : frR w z2 := fr_w m2 (by decide) (by decide) (by decide) (by decide)
      have eU : uS (ndR fi se nb mk) hd (2 * pcb mk) = (nU fi se hd nb mk, uU fi se hd nb mk) := by unfold nU uU; rw [hF.1]
      have k5 := s3.2.2.2.2.1.1
      rw [eU] at k5
      rw [s1, s2, if_neg c_one, if_neg c_one, m1, bd1_s, if_pos (show nI 3 = (3 : Int32) from rfl), k5, m7]
      exact ⟨_, z1, w, rfl, rfl, iv_q hb s3 s1 s2 (fr_rf _ _ _ _ z1) frw⟩
  · rw [if_neg (show ¬ nI 4 = (0 : Int32) by decide), if_neg (show ¬ nI 4 = (1 : Int32) by decide), if_neg (show ¬ nI 4 = (2 : Int32) by decide), if_neg (show ¬ nI 4 = (3 : Int32) by decide), if_pos (show nI 4 = (4 : Int32) from rfl), if_neg (show ¬ nI 4 = (1 : Int32) by decide), if_neg (show ¬ nI 4 = (2 : Int32) by decide), if_neg (show ¬ nI 4 = (0 : Int32) by decide)]
    rcases hs with ⟨s1, s2⟩ | ⟨s1, s2, s3⟩
    · rw [s1, s2, if_pos rfl, if_pos rfl]
      exact ⟨_, z1, z2, rfl, rfl, h⟩
    · obtain ⟨hF, hu, _⟩ := sealF hb s3
      have hn := hu.1
      obtain ⟨w, y, m1, m2, m3, m4, m5, m6, m7⟩ := f_om hb
      have frw : frR y z2 := fr_w m3 (by decide) (by decide) (by decide) (by decide)
      have hdx : dxx y (nU fi se hd nb mk) (uU fi se hd nb mk) (KI pt fi se st sp nb) (fun i => (y.2.2.2 14 i).toInt) := dxx_of hbr hu m6 m7 (fun i _ => ⟨jl_of _, by have := Int64.le_toInt (y.2.2.2 14 i); omega, by have := Int64.toInt_lt (y.2.2.2 14 i); omega⟩)
      have e := lp_p8 hn m5 hdx (nU fi se hd nb mk) 200 0 (by omega) (by omega)
      have e' : l_M_profile_8 200 y 0 0 = some (nI (pfS (AU pt fi se st sp (uU fi se hd nb mk) nb) (nU fi se hd nb mk)), y) := e
      have e2 := lp_p4 (z := z1) (A := AU pt fi se st sp (uU fi se hd nb mk) nb) hn s3.2.2.2.2.2.1 (fun i hi q hq => ⟨s3.2.2.2.2.2.2.2.1 i hi q hq, by
        have := K_rng (pt := pt) (fi := fi) (se := se) (st := st) hbr.2.2 (hu.2.1 i hi) (uU fi se hd nb mk q) nb (fun k hk => (hbr.2.1 k hk).1)
        have h10 := hbr.1
        show -1000 ≤ KI pt fi se st sp nb (uU fi se hd nb mk i) (uU fi se hd nb mk q) ∧ KI pt fi se st sp nb (uU fi se hd nb mk i) (uU fi se hd nb mk q) ≤ 1000
        omega⟩) (nU fi se hd nb mk) 200 0 (by omega) (by omega)
      have e2' : l_E_profile_4 200 z1 0 0 = some (nI (pfS (AU pt fi se st sp (uU fi se hd nb mk) nb) (nU fi se hd nb mk)), z1) := e2
      unfold f_E_profile f_M_profile
      rw [s1, s2, if_neg c_one, if_neg c_one, m1, bd1_s, if_neg (show ¬ nI 4 = (3 : Int32) by decide), m2, bd1_s, e', e2', bd2_s, bd2_s, bd2_s, bd2_s]
      exact ⟨_, z1, y, rfl, rfl, iv_q hb s3 s1 s2 (fr_rf _ _ _ _ z1) frw⟩
