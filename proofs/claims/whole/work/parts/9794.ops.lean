/-! force, reaction -/
theorem sb_N {pt fi se : Nat → Nat} {i : Nat} (h1 : fi i < 5) (h2 : se i < 5) (h : fi i ≠ se i) (N : Nat → Int) : mx_sum (List.range 10) (fun s => sbI pt fi se i s * N s) = wyI pt fi se i 0 * (N (se i * 2 + 0) - N (fi i * 2 + 0)) + wyI pt fi se i 1 * (N (se i * 2 + 1) - N (fi i * 2 + 1)) := by
  have e : mx_sum (List.range 10) (fun s => sbI pt fi se i s * N s) = mx_sum (List.range 10) (fun s => wyI pt fi se i 0 * ((if se i * 2 + 0 = s then N s else 0) - (if fi i * 2 + 0 = s then N s else 0)) + wyI pt fi se i 1 * ((if se i * 2 + 1 = s then N s else 0) - (if fi i * 2 + 1 = s then N s else 0))) := mx_sum_congr (fun s _ => by
    have key : ∀ k : Nat, (if k = s then N s else 0) = (if s = k then (1 : Int) else 0) * N s := fun k => by
      by_cases q : k = s
      · rw [if_pos q, if_pos q.symm, Int.one_mul]
      · rw [if_neg q, if_neg (Ne.symm q), Int.zero_mul]
    rw [sb_x pt fi se h s, key, key, key, key]
    grind)
  rw [e, mx_sum_add, mx_sum_mul, mx_sum_mul, mx_sum_sub, mx_sum_sub, mx_sum_delta List.nodup_range (List.mem_range.mpr (show se i * 2 + 0 < 10 by omega)) N, mx_sum_delta List.nodup_range (List.mem_range.mpr (show fi i * 2 + 0 < 10 by omega)) N, mx_sum_delta List.nodup_range (List.mem_range.mpr (show se i * 2 + 1 < 10 by omega)) N, mx_sum_delta List.nodup_range (List.mem_range.mpr (show fi i * 2 + 1 < 10 by omega)) N]
/-- the pull of a bar, times the determinant -/
def FN (pt fi se st : Nat → Nat) (N : Nat → Int) (i : Nat) : Int := (st i : Int) * mx_sum (List.range 10) (fun s => sbI pt fi se i s * N s)
theorem lp_fnu {z : gS} {nb : Nat} {pt fi se st : Nat → Nat} {N : Nat → Int} (h : cx z nb pt fi se st) {i : Nat} (hi : i < nb) (hN : ∀ s, z.2.2.2 25 s = jl (N s)) : ∀ (g f s : Nat), s + g = 10 → g < f → l_R_forceNumerator_1_5 f z (nI i) (jl (mx_sum (List.range s) (fun s => sbI pt fi se i s * N s))) (nI s) = some (nI i, jl (mx_sum (List.range 10) (fun s => sbI pt fi se i s * N s)), z)
  | 0, f + 1, s, hg, hf => by
    have : s = 10 := by omega
    subst this
    rw [l_R_forceNumerator_1_5, if_pos (by decide)]
  | g + 1, f + 1, s, hg, hf => by
    have hs : s < 10 := by omega
    have c1 := ck_in hs (by decide)
    have hr := sb_rng pt fi se i s
    rw [l_R_forceNumerator_1_5, if_neg (show ¬ (10 : Int32) ≤ nI s from nI_ge (b := 10) hs (by decide)), f_str h hi hs, bd2_s, if_neg c1, let_s, nI_clamp (show s < 2 ^ 31 by omega), hN, jl_i (by omega) (by omega), jl_mul, jl_add, nI_1, ← mx_rs s (fun s => sbI pt fi se i s * N s)]
    exact lp_fnu h hi hN g f (s + 1) (by omega) (by omega)
theorem f_fnu {z : gS} {nb : Nat} {pt fi se st : Nat → Nat} {N : Nat → Int} (h : cx z nb pt fi se st) {i : Nat} (hi : i < nb) (hN : ∀ s, z.2.2.2 25 s = jl (N s)) : f_R_forceNumerator_1 z (nI i) = some (jl (FN pt fi se st N i), z) := by
  have hnb := h.1
  obtain ⟨e6, e7, e8, l1, l2, l3, l4, l5⟩ := h.2.2.2 i hi
  have c1 := ck_in (show i < 10 by omega) (by decide)
  unfold f_R_forceNumerator_1
  have e := lp_fnu h hi hN 10 200 0 rfl (by decide)
  have e' : l_R_forceNumerator_1_5 200 z (nI i) 0 0 = some (nI i, jl (mx_sum (List.range 10) (fun s => sbI pt fi se i s * N s)), z) := e
  rw [e', bd3_s, if_neg c1, nI_clamp (show i < 2 ^ 31 by omega), e8, jl_n (by omega), jl_mul]
  rfl
/-- the reference's displacements are these -/
def MV (z1 : gS) (mk nb : Nat) (pt fi se st hd sp : Nat → Nat) (ha : Nat → Int) (ld : Nat → Nat → Int) (X : Int32) (N : Nat → Int) : Prop := ∀ n, n < 5 → bt5 mk n = 1 → ∀ d, d < 2 → ∀ w, iv_b z1 w mk nb pt fi se st hd sp ha ld → ∃ w', f_M_moved w X (nI (n * 2 + d)) = some (jl (N (n * 2 + d)), w') ∧ frR w' w
theorem f_pull {z1 w : gS} {mk nb : Nat} {pt fi se st hd sp : Nat → Nat} {ha : Nat → Int} {ld : Nat → Nat → Int} {X : Int32} {N : Nat → Int} (hm : MV z1 mk nb pt fi se st hd sp ha ld X N) (hb : iv_b z1 w mk nb pt fi se st hd sp ha ld) {i : Nat} (hi : i < nb) (hg : bt5 mk (fi i) = 1 ∧ bt5 mk (se i) = 1) : ∃ w', f_M_pull w X (nI i) = some (jl (FN pt fi se st N i), w') ∧ frR w' w := by
  obtain ⟨_, _, _, hrx, _⟩ := ctx_of hb
  have hnb := hrx.1
  obtain ⟨e4, e5, e6, l1, l2, l3, l4, l5⟩ := hrx.2.2.2 i hi
  have c1 := ck_in (show i < 10 by omega) (by decide)
  have step : ∀ (d : Nat) (u : gS) (acc : Int) (f : Nat), d < 2 → frR u w → ∃ u', frR u' w ∧ l_M_pull_5 (f + 1) u X (nI i) (jl acc) (nI d) = l_M_pull_5 f u' X (nI i) (jl (acc + wyI pt fi se i d * (N (se i * 2 + d) - N (fi i * 2 + d)))) (nI (d + 1)) := fun d u acc f hd2 hu => by
    have hbu := ivb_r hb hu
    obtain ⟨_, _, _, hrxu, _⟩ := ctx_of hbu
    obtain ⟨e4u, e5u, e6u, _⟩ := hrxu.2.2.2 i hi
    obtain ⟨u1, a1, a2⟩ := hm _ l2 hg.2 d hd2 u hbu
    have hu1 : frR u1 w := fr_tr a2 hu
    obtain ⟨_, _, _, hrx1, _⟩ := ctx_of (ivb_r hb hu1)
    obtain ⟨e41, e51, e61, _⟩ := hrx1.2.2.2 i hi
    obtain ⟨u2, b1, b2⟩ := hm _ l1 hg.1 d hd2 u1 (ivb_r hb hu1)
    refine ⟨u2, fr_tr b2 hu1, ?_⟩
    have hw := sg_rng ((pt (se i * 2 + d) : Int) - (pt (fi i * 2 + d) : Int))
    have hw2 : -1 ≤ wyI pt fi se i d ∧ wyI pt fi se i d ≤ 1 := hw
    rw [l_M_pull_5, if_neg (show ¬ (2 : Int32) ≤ nI d from nI_ge (b := 2) hd2 (by decide)), f_way hrxu hi hd2, bd2_s]
    simp only [if_neg c1]
    rw [nI_clamp (show i < 2 ^ 31 by omega), e5u, sl_of, a1, bd2_s, e41, sl_of, b1, bd2_s, let_s, jl_i (by omega) (by omega), jl_sub, jl_mul, jl_add, nI_1]
  unfold f_M_pull
  obtain ⟨u1, s1, s2⟩ := step 0 w 0 199 (by decide) (fr_rf _ _ _ _ w)
  obtain ⟨u2, t1, t2⟩ := step 1 u1 (0 + wyI pt fi se i 0 * (N (se i * 2 + 0) - N (fi i * 2 + 0))) 198 (by decide) s1
  have e : l_M_pull_5 200 w X (nI i) 0 0 = some (nI i, jl (0 + wyI pt fi se i 0 * (N (se i * 2 + 0) - N (fi i * 2 + 0)) + wyI pt fi se i 1 * (N (se i * 2 + 1) - N (fi i * 2 + 1))), u2) := by
    have s2' : l_M_pull_5 200 w X (nI i) 0 0 = l_M_pull_5 199 u1 X (nI i) (jl (0 + wyI pt fi se i 0 * (N (se i * 2 + 0) - N (fi i * 2 + 0)))) (nI 1) := s2
    rw [s2', t2, l_M_pull_5, if_pos (by decide)]
  obtain ⟨_, _, _, hrx2, _⟩ := ctx_of (ivb_r hb t1)
  obtain ⟨_, _, e62, _⟩ := hrx2.2.2.2 i hi
  rw [e, bd3_s, if_neg c1, nI_clamp (show i < 2 ^ 31 by omega), e62, jl_n (by omega), jl_mul, Int.zero_add, ← sb_N l1 l2 l3 N, Int.mul_comm]
  exact ⟨u2, rfl, t1⟩
theorem ok_force {z1 z2 : gS} {p1 p2 p3 : Int32} (h : iv SKd z1 z2) : ∃ r w1 w2, f_S_force z1 p1 p2 p3 = some (r, w1) ∧ f_M_force z2 p1 p2 p3 = some (r, w2) ∧ iv SKd w1 w2 := by
  obtain ⟨mk, nb, pt, fi, se, st, hd, sp, ha, ld, hb, hs⟩ := id h
  unfold f_S_force f_M_force
  rcases hs with ⟨s1, s2⟩ | ⟨s1, s2, s3⟩
  · rw [s1, s2, if_pos rfl, if_pos rfl]
    exact ⟨_, z1, z2, rfl, rfl, h⟩
  rw [s1, s2, if_neg (by decide), if_neg (by decide)]
  obtain ⟨hk, t1, hcx, hrx, _⟩ := ctx_of hb
  have hnb := hcx.1
  rcases gd_case p1 with ⟨k1, k2⟩ | ⟨c, hc, rfl, k1, k2⟩
  · rw [k1, k2, bd2_s, bd2_s, if_pos rfl, if_neg (by decide)]
    exact ⟨_, z1, z2, rfl, rfl, h⟩
  rw [k1, k2, bd2_s, bd2_s, if_neg (by decide), if_pos rfl]
  unfold f_S_isBarThere
  rw [hcx.2.1, hrx.2.1]
  by_cases q1 : p2 < 0
  · rw [if_pos q1, if_pos q1, bd2_s, if_pos rfl]
    exact ⟨_, z1, z2, rfl, rfl, h⟩
  rw [if_neg q1, if_neg q1]
  by_cases q2 : nI nb ≤ p2
  · rw [if_pos q2, if_pos q2, bd2_s, if_pos rfl]
    exact ⟨_, z1, z2, rfl, rfl, h⟩
  rw [if_neg q2, if_neg q2, bd2_s, if_neg (by decide)]
  obtain ⟨i, hi, rfl⟩ := ix_of nb rfl (by omega) q1 q2
  rcases gd_part p3 with ⟨e1, e2⟩ | ⟨e1, e2⟩
  · rw [e1, e2, bd2_s, bd2_s, if_pos rfl, if_neg (by decide)]
    exact ⟨_, z1, z2, rfl, rfl, h⟩
  rw [e1, e2, bd2_s, bd2_s, if_neg (by decide), if_pos rfl]
  obtain ⟨z, c1, c2, c3⟩ := f_cc (z := z1) hc
  rw [c1, bd1_s]
  obtain ⟨z', N, r1, r2, r3, r4, r5, r6, r7, r8⟩ := core_num hb s3 _ c2 c3
  obtain ⟨_, _, _, _, _, d0, d9, _⟩ := sealF hb s3
  rw [r1, bd1_s, f_fnu (cx_keep hcx r2 (by decide) (by decide) (by decide) (by decide) (by decide)) hi r6, bd2_s]
  obtain ⟨w1, m1, m2⟩ := f_pull (N := N) r8 hb hi (good_th s3.2.1 i hi)
  obtain ⟨w2, m3, m4⟩ := f_mdt (ivb_r hb m2) s3 (frR_1 m2 s2)
  obtain ⟨r, w3, g1, g2, g3⟩ := f_frac (z := z') (w := w2) (num := jl (FN pt fi se st N i)) (part := p3) d0 d9 r3
  rw [m1, bd2_s, m3, bd2_s, g1, bd2_s, g2, bd2_s]
  exact ⟨r, z', w3, rfl, rfl, iv_q hb s3 s1 s2 r2 (fr_tr (fr_w g3 (by decide) (by decide) (by decide) (by decide)) (fr_tr (frR_w m4) m2))⟩
/-! reaction -/
theorem K_N (pt fi se st sp : Nat → Nat) (N : Nat → Int) {s : Nat} (hs : s < 10) : ∀ nb, mx_sum (List.range 10) (fun o => KI pt fi se st sp nb s o * N o) = (sp s : Int) * N s + mx_sum (List.range nb) (fun i => sbI pt fi se i s * FN pt fi se st N i)
  | 0 => by
    have e : mx_sum (List.range 10) (fun o => KI pt fi se st sp 0 s o * N o) = mx_sum (List.range 10) (fun o => if s = o then (sp s : Int) * N o else 0) := mx_sum_congr (fun o _ => by
      show (if s = o then (sp s : Int) else 0) * N o = _
      by_cases q : s = o
      · rw [if_pos q, if_pos q]
      · rw [if_neg q, if_neg q, Int.zero_mul])
    rw [e, mx_sum_delta List.nodup_range (List.mem_range.mpr hs) (fun o => (sp s : Int) * N o)]
    exact (Int.add_zero _).symm
  | nb + 1 => by
    have e : mx_sum (List.range 10) (fun o => KI pt fi se st sp (nb + 1) s o * N o) = mx_sum (List.range 10) (fun o => KI pt fi se st sp nb s o * N o) + ((st nb : Int) * sbI pt fi se nb s) * mx_sum (List.range 10) (fun o => sbI pt fi se nb o * N o) := by
      rw [← mx_sum_mul, ← mx_sum_add]
      refine mx_sum_congr (fun o _ => ?_)
      show (KI pt fi se st sp nb s o + (st nb : Int) * sbI pt fi se nb s * sbI pt fi se nb o) * N o = _
      grind
    have e3 : FN pt fi se st N nb = (st nb : Int) * mx_sum (List.range 10) (fun o => sbI pt fi se nb o * N o) := rfl
    rw [e, K_N pt fi se st sp N hs nb, mx_rs nb (fun i => sbI pt fi se i s * FN pt fi se st N i), e3]
    generalize mx_sum (List.range 10) (fun o => sbI pt fi se nb o * N o) = S
    generalize mx_sum (List.range nb) (fun i => sbI pt fi se i s * FN pt fi se st N i) = T
    grind
theorem lp_rn {z : gS} {K : Nat → Nat → Int} {N : Nat → Int} {s : Nat} (hs : s < 10) {x : Int} (hK : ∀ c, c < 10 → z.2.2.2 (s + 32) c = jl (K s c)) (hN : ∀ s, z.2.2.2 25 s = jl (N s)) : ∀ (g f o : Nat), o + g = 10 → g < f → l_R_reactionNumerator_3_16 f z (nI s) (jl (x + mx_sum (List.range o) (fun o => K s o * N o))) (nI o) = some (jl (x + mx_sum (List.range 10) (fun o => K s o * N o)), z)
  | 0, f + 1, o, hg, hf => by
    have : o = 10 := by omega
    subst this
    rw [l_R_reactionNumerator_3_16, if_pos (by decide)]
  | g + 1, f + 1, o, hg, hf => by
    have ho : o < 10 := by omega
    have c1 := ck_in hs (by decide)
    have c2 := ck_in ho (by decide)
    rw [l_R_reactionNumerator_3_16, if_neg (show ¬ (10 : Int32) ≤ nI o from nI_ge (b := 10) ho (by decide))]
    simp only [if_neg c1, if_neg c2, let_s]
    rw [nI_clamp (show s < 2 ^ 31 by omega), nI_clamp (show o < 2 ^ 31 by omega), hK o ho, hN, jl_mul, jl_add, nI_1, Int.add_assoc, ← mx_rs o (fun o => K s o * N o)]
    exact lp_rn hs hK hN g f (o + 1) (by omega) (by omega)
theorem phi_1 {ch : Nat} (hch : ch < 4) {c : Nat} (hc : c < 4) : phi ((1 : Int32) <<< (((8 : Int32) * nI ch) &&& 31)) c = if ch = c then 1 else 0 := by
  unfold phi
  rw [← cc_phi ch hch c hc]
  by_cases q : c = ch
  · rw [if_pos q, if_pos q.symm]
    rfl
  · rw [if_neg q, if_neg (Ne.symm q)]
    rfl
theorem LS_1 {ch : Nat} (hch : ch < 4) (ld : Nat → Nat → Int) (s : Nat) : LSm (phi ((1 : Int32) <<< (((8 : Int32) * nI ch) &&& 31))) ld s = ld ch s := by
  unfold LSm
  have e : mx_sum (List.range 4) (fun c => phi ((1 : Int32) <<< (((8 : Int32) * nI ch) &&& 31)) c * ld c s) = mx_sum (List.range 4) (fun c => if ch = c then ld c s else 0) := mx_sum_congr (fun c hc => by
    rw [phi_1 hch (List.mem_range.mp hc)]
    by_cases q : ch = c
    · rw [if_pos q, if_pos q, Int.one_mul]
    · rw [if_neg q, if_neg q, Int.zero_mul])
  rw [e, mx_sum_delta List.nodup_range (List.mem_range.mpr hch) (fun c => ld c s)]
theorem HS_1 {ch : Nat} (hch : ch < 4) (ha : Nat → Int) (s : Nat) : HS (phi ((1 : Int32) <<< (((8 : Int32) * nI ch) &&& 31))) ha s = ha s := by
  unfold HS
  have e : mx_sum (List.range 4) (fun c => phi ((1 : Int32) <<< (((8 : Int32) * nI ch) &&& 31)) c * ha s) = mx_sum (List.range 4) (fun c => if ch = c then ha s else 0) := mx_sum_congr (fun c hc => by
    rw [phi_1 hch (List.mem_range.mp hc)]
    by_cases q : ch = c
    · rw [if_pos q, if_pos q, Int.one_mul]
    · rw [if_neg q, if_neg q, Int.zero_mul])
  rw [e, mx_sum_delta List.nodup_range (List.mem_range.mpr hch) (fun _ => ha s)]
theorem lp_rc {z1 : gS} {mk nb : Nat} {pt fi se st hd sp : Nat → Nat} {ha : Nat → Int} {ld : Nat → Nat → Int} {p1 : Int32} {N : Nat → Int} (hm : MV z1 mk nb pt fi se st hd sp ha ld ((1 : Int32) <<< (((8 : Int32) * p1) &&& 31)) N) (hg : ∀ i, i < nb → bt5 mk (fi i) = 1 ∧ bt5 mk (se i) = 1) {n d : Nat} (hn : n < 5) (hd2 : d < 2) {x : Int} {P : Int32} : ∀ (g f i : Nat) (w : gS), i + g = nb → g < f → iv_b z1 w mk nb pt fi se st hd sp ha ld → ∃ w', l_M_reaction_119 f w p1 (nI n) (nI d) P (jl (x + mx_sum (List.range i) (fun i => sbI pt fi se i (n * 2 + d) * FN pt fi se st N i))) (nI i) = some (P, jl (x + mx_sum (List.range nb) (fun i => sbI pt fi se i (n * 2 + d) * FN pt fi se st N i)), w') ∧ frR w' w
  | 0, f + 1, i, w, hg9, hf, hb => by
    obtain ⟨_, _, _, hrx, _⟩ := ctx_of hb
    have hnb := hrx.1
    have : i = nb := by omega
    subst this
    rw [l_M_reaction_119, hrx.2.1, if_pos (nI_le (Nat.le_refl _) (by omega))]
    exact ⟨w, rfl, fr_rf _ _ _ _ w⟩
  | g + 1, f + 1, i, w, hg9, hf, hb => by
    obtain ⟨_, _, _, hrx, _⟩ := ctx_of hb
    have hnb := hrx.1
    have hi : i < nb := by omega
    obtain ⟨e4, e5, e6, l1, l2, l3, l4, l5⟩ := hrx.2.2.2 i hi
    have c1 := ck_in (show i < 10 by omega) (by decide)
    obtain ⟨w1, a1, a2⟩ := f_pull hm hb hi (hg i hi)
    have hb1 := ivb_r hb a2
    obtain ⟨_, _, _, hrx1, _⟩ := ctx_of hb1
    obtain ⟨e41, e51, e61, _⟩ := hrx1.2.2.2 i hi
    have hw2 : -1 ≤ wyI pt fi se i d ∧ wyI pt fi se i d ≤ 1 := sg_rng _
    have es : sbI pt fi se i (n * 2 + d) = if n = se i then wyI pt fi se i d else if n = fi i then - wyI pt fi se i d else 0 := by
      unfold sbI
      rw [show (n * 2 + d) / 2 = n by omega, show (n * 2 + d) % 2 = d by omega]
    have go : ∀ (u : gS) (v : Int), frR u w → v = sbI pt fi se i (n * 2 + d) * FN pt fi se st N i → ∃ w', l_M_reaction_119 f u p1 (nI n) (nI d) P (jl (x + mx_sum (List.range i) (fun i => sbI pt fi se i (n * 2 + d) * FN pt fi se st N i) + v)) (nI (i + 1)) = some (P, jl (x + mx_sum (List.range nb) (fun i => sbI pt fi se i (n * 2 + d) * FN pt fi se st N i)), w') ∧ frR w' w := fun u v hu hv => by
      obtain ⟨w', b1, b2⟩ := lp_rc (x := x) (P := P) hm hg hn hd2 g f (i + 1) u (by omega) (by omega) (ivb_r hb hu)
      rw [mx_rs, ← hv, ← Int.add_assoc] at b1
      exact ⟨w', b1, fr_tr b2 hu⟩
    rw [l_M_reaction_119, hrx.2.1, if_neg (nI_ge hi (by omega))]
    simp only [if_neg c1]
    rw [nI_clamp (show i < 2 ^ 31 by omega), e4, e5, nI_1]
    simp only [nI_iff l1 hn, nI_iff l2 hn]
    by_cases q1 : fi i = n
    · have q2 : ¬ se i = n := fun e => l3 (q1.trans e.symm)
      rw [if_pos q1, f_way hrx hi hd2, bd2_s, a1, bd2_s, let_s, e51]
      simp only [nI_iff l2 hn]
      rw [if_neg q2, jl_i (by omega) (by omega), jl_mul, jl_sub, Int.sub_eq_add_neg]
      refine go w1 _ a2 ?_
      rw [es, if_neg (fun e => q2 e.symm), if_pos q1.symm, Int.neg_mul]
    · rw [if_neg q1]
      by_cases q2 : se i = n
      · rw [if_pos q2, f_way hrx hi hd2, bd2_s, a1, bd2_s, let_s, jl_i (by omega) (by omega), jl_mul, jl_add]
        refine go w1 _ a2 ?_
        rw [es, if_pos q2.symm]
      · rw [if_neg q2]
        have := go w 0 (fr_rf _ _ _ _ w) (by rw [es, if_neg (fun e => q2 e.symm), if_neg (fun e => q1 e.symm), Int.zero_mul])
        rw [Int.add_zero] at this
        exact this
