/-! The characteristic polynomial, as the program grows it -/
theorem ps_sum : ∀ (m : Nat) (f g : Nat → Int), ps_mul f g m = mx_sum (List.range (m + 1)) (fun k => f k * g (m - k))
  | 0, f, g => by
    simp only [ps_mul, List.range_succ, List.range_zero, List.nil_append, mx_sum, Nat.sub_self]
    omega
  | m + 1, f, g => by
    rw [mx_range_succ, ps_mul, ps_sum m]
    congr 1
    exact mx_sum_congr (fun k _ => by rw [show m + 1 - (k + 1) = m - k by omega])
theorem ch_P0 (A : Nat → Nat → Int) : ∀ n, ch_P A (List.range n) 0 = 1
  | 0 => rfl
  | n + 1 => by
    rw [List.range_succ, ch_grow A List.nodup_range (fun h => absurd (List.mem_range.mp h) (Nat.lt_irrefl n)), ps_sum, mx_range_succ]
    simp only [List.range_zero, mx_sum, Nat.sub_self, ch_g]
    rw [ch_P0 A n]
    rfl
theorem ch_Pb (A : Nat → Nat → Int) (n m : Nat) (h : n < m) : ch_P A (List.range n) m = 0 := (ch_col A List.nodup_range).1 m (by rw [List.length_range]; exact h)
theorem lp_co {n i : Nat} {A : Nat → Nat → Int} (hn : n ≤ 10) (hi : i < n) : ∀ (g f j : Nat) (z : gS), j + g = i → g < f → (∀ p, p < n → ∀ q, q < n → z.2.2.2 (p + 42) q = jl (A p q)) → (∀ p, p < j → z.2.2.2 22 p = jl (A p i)) → ∃ z', l_E_findGrowth_24 f z (nI i) (nI j) = some (nI i, z') ∧ fr [] [] [] [22] z' z ∧ ∀ p, p < i → z'.2.2.2 22 p = jl (A p i)
  | 0, f + 1, j, z, hg, hf, hA, hz => by
    have : j = i := by omega
    subst this
    rw [l_E_findGrowth_24, if_pos (nI_le (Nat.le_refl _) (by omega))]
    exact ⟨z, rfl, fr_rf _ _ _ _ z, hz⟩
  | g + 1, f + 1, j, z, hg, hf, hA, hz => by
    have hj : j < i := by omega
    have c1 := ck_in (show i < 10 by omega) (by decide)
    have c2 := ck_in (show j < 10 by omega) (by decide)
    rw [l_E_findGrowth_24, if_neg (nI_ge hj (by omega))]
    simp only [if_neg c1, if_neg c2, let_s]
    rw [nI_clamp (show i < 2 ^ 31 by omega), nI_clamp (show j < 2 ^ 31 by omega), hA j (by omega) i hi, nI_1]
    have hf1 : fr [] [] [] [22] (s_J z 22 (vp_updL (z.2.2.2 22) j (jl (A j i)))) z := fr_J _ _ (by decide)
    obtain ⟨z', b1, b2, b3⟩ := lp_co hn hi g f (j + 1) (s_J z 22 (vp_updL (z.2.2.2 22) j (jl (A j i)))) (by omega) (by omega) (fun p hp q hq => by rw [sJ_ne _ _ (show p + 42 ≠ 22 by omega)]; exact hA p hp q hq) (fun p hp => by
      rw [sJ_self]
      by_cases e : p = j
      · rw [e, pk_uLs]
      · rw [pk_uLn e]; exact hz p (by omega))
    exact ⟨z', b1, fr_tr b2 hf1, b3⟩
theorem ch_g2 (A : Nat → Nat → Int) (l : List Nat) (i k : Nat) : ch_g A l i (k + 2) = - mx_sum l (fun q => A i q * ch_pw A l (fun p => A p i) k q) := rfl
theorem lp_gw {n i : Nat} {A : Nat → Nat → Int} (hn : n ≤ 10) (hi : i < n) : ∀ (g f k : Nat) (z : gS), k + g = i → g < f → (∀ p, p < n → ∀ q, q < n → z.2.2.2 (p + 42) q = jl (A p q)) → (∀ p, p < i → z.2.2.2 22 p = jl (ch_pw A (List.range i) (fun p => A p i) k p)) → (∀ m, m < k + 2 → z.2.2.2 21 m = jl (ch_g A (List.range i) i m)) → ∃ z', l_E_findGrowth_51 f z (nI i) (nI (k + 2)) = some z' ∧ fr [] [] [] [21, 22, 23] z' z ∧ ∀ m, m < i + 2 → z'.2.2.2 21 m = jl (ch_g A (List.range i) i m)
  | 0, f + 1, k, z, hg, hf, hA, hc, hz => by
    have : k = i := by omega
    subst this
    rw [l_E_findGrowth_51, nI_1, if_pos (nI_lt (show k + 1 < k + 2 by omega) (by omega))]
    exact ⟨z, rfl, fr_rf _ _ _ _ z, hz⟩
  | g + 1, f + 1, k, z, hg, hf, hA, hc, hz => by
    have hk : k < i := by omega
    have c1 := ck_in (show k + 2 < 11 by omega) (by decide)
    rw [l_E_findGrowth_51, nI_1, if_neg (nI_nlt (show k + 2 ≤ i + 1 by omega) (by omega)), f_rt22 (show i < 10 by omega) (show i ≤ 10 by omega) (fun q hq => hA i hi q (by omega)) hc, bd2_s, if_neg c1, let_s, nI_clamp (show k + 2 < 2 ^ 31 by omega), jl_neg, ← ch_g2 A (List.range i) i k]
    have hf1 : fr [] [] [] [21, 22, 23] (s_J z 21 (vp_updL (z.2.2.2 21) (k + 2) (jl (ch_g A (List.range i) i (k + 2))))) z := fr_J _ _ (by decide)
    obtain ⟨z1, a1, a2, a3⟩ := f_mu22 (len := i) (A := A) (v := ch_pw A (List.range i) (fun p => A p i) k) (z := s_J z 21 (vp_updL (z.2.2.2 21) (k + 2) (jl (ch_g A (List.range i) i (k + 2))))) (by omega) (fun p hp q hq => by rw [sJ_ne _ _ (show p + 42 ≠ 21 by omega)]; exact hA p (by omega) q (by omega)) (fun q hq => by rw [sJ_ne _ _ (show 22 ≠ 21 by decide)]; exact hc q hq)
    rw [a1, bd1_s, nI_1]
    have hf2 := fr_tr (fr_w a2 (a' := []) (b' := []) (c' := []) (d' := [21, 22, 23]) (by decide) (by decide) (by decide) (by decide)) hf1
    obtain ⟨z', b1, b2, b3⟩ := lp_gw hn hi g f (k + 1) z1 (by omega) (by omega) (fun p hp q hq => by rw [hf2.2.2.2 (p + 42) (fun m => by have : ∀ x ∈ [21, 22, 23], x < 42 := (by decide); have := this _ m; omega)]; exact hA p hp q hq) a3 (fun m hm => by
      rw [a2.2.2.2 21 (by decide), sJ_self]
      by_cases e : m = k + 2
      · rw [e, pk_uLs]
      · rw [pk_uLn e]; exact hz m (by omega))
    exact ⟨z', b1, fr_tr b2 hf2, b3⟩
theorem f_gw {n i : Nat} {A : Nat → Nat → Int} {z : gS} (hn : n ≤ 10) (hi : i < n) (hA : ∀ p, p < n → ∀ q, q < n → z.2.2.2 (p + 42) q = jl (A p q)) : ∃ z', f_E_findGrowth z (nI i) = some z' ∧ fr [] [] [] [21, 22, 23] z' z ∧ ∀ m, m < i + 2 → z'.2.2.2 21 m = jl (ch_g A (List.range i) i m) := by
  have c1 := ck_in (show i < 10 by omega) (by decide)
  unfold f_E_findGrowth
  rw [if_neg (by decide), let_s]
  simp only [if_neg c1]
  rw [if_neg (by decide), let_s, nI_clamp (show i < 2 ^ 31 by omega), show (0 : Int32).toNatClampNeg = 0 from rfl, show (1 : Int32).toNatClampNeg = 1 from rfl, sJ_self, sJ_ne _ _ (show i + 42 ≠ 21 by omega), hA i hi i hi, jl_neg]
  generalize hw : s_J (s_J z 21 (vp_updL (z.2.2.2 21) 0 1)) 21 (vp_updL (vp_updL (z.2.2.2 21) 0 1) 1 (jl (- A i i))) = w
  have hf1 : fr [] [] [] [21, 22, 23] w z := by
    rw [← hw]
    exact fr_tr (fr_J _ _ (by decide)) (fr_J _ _ (by decide))
  have big : ∀ p, p + 42 ∉ [21, 22, 23] := fun p m => by
    have : ∀ x ∈ [21, 22, 23], x < 42 := by decide
    have := this _ m
    omega
  obtain ⟨z1, a1, a2, a3⟩ := lp_co (A := A) hn hi i 200 0 w (by omega) (by omega) (fun p hp q hq => by rw [hf1.2.2.2 (p + 42) (big p)]; exact hA p hp q hq) (fun p hp => absurd hp (Nat.not_lt_zero p))
  have a1' : l_E_findGrowth_24 200 w (nI i) 0 = some (nI i, z1) := a1
  rw [a1', bd2_s]
  have hf2 := fr_tr (fr_w a2 (a' := []) (b' := []) (c' := []) (d' := [21, 22, 23]) (by decide) (by decide) (by decide) (by decide)) hf1
  obtain ⟨z2, b1, b2, b3⟩ := lp_gw (A := A) hn hi i 200 0 z1 (by omega) (by omega) (fun p hp q hq => by rw [hf2.2.2.2 (p + 42) (big p)]; exact hA p hp q hq) a3 (fun m hm => by
    rw [a2.2.2.2 21 (by decide), ← hw, sJ_self]
    have h2 : m = 0 ∨ m = 1 := by omega
    rcases h2 with e | e
    · rw [e]
      rw [pk_uLn (show 0 ≠ 1 by decide), pk_uLs]
      rfl
    · rw [e, pk_uLs]
      rfl)
  have b1' : l_E_findGrowth_51 200 z1 (nI i) 2 = some z2 := b1
  rw [b1', bd1_s]
  exact ⟨z2, rfl, fr_tr b2 hf2, b3⟩
/-! the product of the polynomial with what it grows by -/
theorem lp_g27 {z : gS} {m : Nat} {G P : Nat → Int} (hm : m ≤ 10) (hG : ∀ k, k ≤ m → z.2.2.2 21 k = jl (G k)) (hP : ∀ k, k ≤ m → z.2.2.2 20 k = jl (P k)) : ∀ (g f k : Nat), k + g = m + 1 → g < f → l_E_growPolynomial_27 f z (nI m) (jl (mx_sum (List.range k) (fun k => G k * P (m - k)))) (nI k) = some (nI m, jl (mx_sum (List.range (m + 1)) (fun k => G k * P (m - k))), z)
  | 0, f + 1, k, hg, hf => by
    have : k = m + 1 := by omega
    subst this
    rw [l_E_growPolynomial_27, if_pos (nI_lt (show m < m + 1 by omega) (by omega))]
  | g + 1, f + 1, k, hg, hf => by
    have c1 := ck_in (show k < 11 by omega) (by decide)
    have c2 := ck_in (show m - k < 11 by omega) (by decide)
    rw [l_E_growPolynomial_27, if_neg (nI_nlt (show k ≤ m by omega) (by omega)), if_neg c1, pk_sub (show k ≤ m by omega), if_neg c2, let_s, nI_clamp (show k < 2 ^ 31 by omega), nI_clamp (show m - k < 2 ^ 31 by omega), hG k (by omega), hP (m - k) (by omega), jl_mul, jl_add, nI_1, ← mx_rs k (fun k => G k * P (m - k))]
    exact lp_g27 hm hG hP g f (k + 1) (by omega) (by omega)
theorem lp_g18 {i : Nat} {G P : Nat → Int} (hi : i ≤ 9) : ∀ (g f : Nat) (z : gS), g ≤ i + 2 → g < f → (∀ k, k ≤ i + 1 → z.2.2.2 21 k = jl (G k)) → (∀ k, k ≤ i + 1 → z.2.2.2 20 k = jl (if g ≤ k then ps_mul G P k else P k)) → ∃ z', l_E_growPolynomial_18 f z (pmI g) = some z' ∧ fr [] [] [] [20] z' z ∧ ∀ k, k ≤ i + 1 → z'.2.2.2 20 k = jl (ps_mul G P k)
  | 0, f + 1, z, hg, hf, hG, hz => by
    rw [l_E_growPolynomial_18, if_pos (show pmI 0 < 0 by decide)]
    exact ⟨z, rfl, fr_rf _ _ _ _ z, fun k hk => by rw [hz k hk, if_pos (Nat.zero_le k)]⟩
  | m + 1, f + 1, z, hg, hf, hG, hz => by
    have c1 := ck_in (show m < 11 by omega) (by decide)
    rw [l_E_growPolynomial_18, if_neg (show ¬ pmI (m + 1) < 0 from nI_pos (by omega)), show pmI (m + 1) = nI m from rfl]
    have h := lp_g27 (z := z) (m := m) (G := G) (P := P) (by omega) (fun k hk => hG k (by omega)) (fun k hk => by rw [hz k (by omega), if_neg (by omega)]) (m + 1) 200 0 (by omega) (by omega)
    have h' : l_E_growPolynomial_27 200 z (nI m) 0 0 = some (nI m, jl (mx_sum (List.range (m + 1)) (fun k => G k * P (m - k))), z) := h
    rw [h', bd3_s, if_neg c1, let_s, nI_clamp (show m < 2 ^ 31 by omega), pm_1, ← ps_sum]
    have hf1 : fr [] [] [] [20] (s_J z 20 (vp_updL (z.2.2.2 20) m (jl (ps_mul G P m)))) z := fr_J _ _ (by decide)
    obtain ⟨z', b1, b2, b3⟩ := lp_g18 hi m f (s_J z 20 (vp_updL (z.2.2.2 20) m (jl (ps_mul G P m)))) (by omega) (by omega) (fun k hk => by rw [sJ_ne _ _ (show 21 ≠ 20 by decide)]; exact hG k hk) (fun k hk => by
      rw [sJ_self]
      by_cases e : k = m
      · rw [e, pk_uLs, if_pos (Nat.le_refl _)]
      · rw [pk_uLn e, hz k hk]
        by_cases q : m + 1 ≤ k
        · rw [if_pos q, if_pos (by omega)]
        · rw [if_neg q, if_neg (by omega)])
    exact ⟨z', b1, fr_tr b2 hf1, b3⟩
theorem f_gp {n i : Nat} {A : Nat → Nat → Int} {z : gS} (hn : n ≤ 10) (hi : i < n) (hA : ∀ p, p < n → ∀ q, q < n → z.2.2.2 (p + 42) q = jl (A p q)) (hz : ∀ k, k ≤ i → z.2.2.2 20 k = jl (ch_P A (List.range i) k)) : ∃ z', f_E_growPolynomial z (nI i) = some z' ∧ fr [] [] [] [20, 21, 22, 23] z' z ∧ ∀ k, k ≤ i + 1 → z'.2.2.2 20 k = jl (ch_P A (List.range (i + 1)) k) := by
  unfold f_E_growPolynomial
  obtain ⟨z1, a1, a2, a3⟩ := f_gw hn hi hA
  have c1 := ck_in (show i + 1 < 11 by omega) (by decide)
  rw [a1, bd1_s, nI_1, if_neg c1, let_s, let_s, nI_clamp (show i + 1 < 2 ^ 31 by omega)]
  obtain ⟨z2, b1, b2, b3⟩ := lp_g18 (i := i) (G := ch_g A (List.range i) i) (P := ch_P A (List.range i)) (by omega) (i + 2) 200 (s_J z1 20 (vp_updL (z1.2.2.2 20) (i + 1) 0)) (Nat.le_refl _) (by omega) (fun k hk => by rw [sJ_ne _ _ (show 21 ≠ 20 by decide)]; exact a3 k (by omega)) (fun k hk => by
    rw [sJ_self, if_neg (by omega)]
    by_cases e : k = i + 1
    · rw [e, pk_uLs, ch_Pb A i (i + 1) (by omega)]
      rfl
    · rw [pk_uLn e, a2.2.2.2 20 (by decide)]
      exact hz k (by omega))
  have b1' : l_E_growPolynomial_18 200 (s_J z1 20 (vp_updL (z1.2.2.2 20) (i + 1) 0)) (nI (i + 1)) = some z2 := b1
  rw [b1', bd1_s]
  refine ⟨z2, rfl, fr_tr (fr_w b2 (by decide) (by decide) (by decide) (by decide)) (fr_tr (fr_J _ _ (by decide)) (fr_w a2 (by decide) (by decide) (by decide) (by decide))), fun k hk => ?_⟩
  rw [b3 k hk, List.range_succ, ch_grow A List.nodup_range (fun h => absurd (List.mem_range.mp h) (Nat.lt_irrefl i)), ps_comm]
theorem sg_pm (n : Nat) : pd_sg n = 1 ∨ pd_sg n = -1 := by
  unfold pd_sg
  by_cases q : n % 2 = 0
  · rw [if_pos q]; exact Or.inl rfl
  · rw [if_neg q]; exact Or.inr rfl
theorem pdD_P (A : Nat → Nat → Int) (n : Nat) : ch_P A (List.range n) n = pd_sg n * pd_D A (List.range n) := by
  unfold pd_D
  rw [List.length_range, ← Int.mul_assoc, pd_sg_sq, Int.one_mul]
theorem lp_wk {n : Nat} {A : Nat → Nat → Int} (hn : n ≤ 10) (hB : ∀ j, j ≤ n → -9223372036854775807 ≤ pd_D A (List.range j) ∧ pd_D A (List.range j) ≤ 9223372036854775807) : ∀ (g f i : Nat) (z : gS), i + g = n → g < f → z.1 6 = nI n → (∀ p, p < n → ∀ q, q < n → z.2.2.2 (p + 42) q = jl (A p q)) → (∀ k, k ≤ i → z.2.2.2 20 k = jl (ch_P A (List.range i) k)) → (∀ j, j ≤ i → pd_D A (List.range j) ≠ 0) → ∃ e k z', l_E_findWeakUnknown_9 f z (nI i) = some (e, nI k, z') ∧ fr [] [] [] [20, 21, 22, 23] z' z ∧ (∀ j, j ≤ k → pd_D A (List.range j) ≠ 0) ∧ ((e = 0 ∧ k < n ∧ pd_D A (List.range (k + 1)) = 0) ∨ (e = 1 ∧ k = n ∧ ∀ k, k ≤ n → z'.2.2.2 20 k = jl (ch_P A (List.range n) k)))
  | 0, f + 1, i, z, hg, hf, h6, hA, hz, h0 => by
    have : i = n := by omega
    subst this
    rw [l_E_findWeakUnknown_9, h6, if_pos (nI_le (Nat.le_refl _) (by omega))]
    exact ⟨1, i, z, rfl, fr_rf _ _ _ _ z, h0, Or.inr ⟨rfl, rfl, hz⟩⟩
  | g + 1, f + 1, i, z, hg, hf, h6, hA, hz, h0 => by
    have hi : i < n := by omega
    have c1 := ck_in (show i + 1 < 11 by omega) (by decide)
    obtain ⟨z1, a1, a2, a3⟩ := f_gp hn hi hA hz
    rw [l_E_findWeakUnknown_9, h6, if_neg (nI_ge hi (by omega)), a1, bd1_s, nI_1, if_neg c1, nI_clamp (show i + 1 < 2 ^ 31 by omega), a3 (i + 1) (Nat.le_refl _)]
    have hb := hB (i + 1) (by omega)
    have hp := pdD_P A (i + 1)
    have heq : lg_cmp (jl (ch_P A (List.range (i + 1)) (i + 1))) 0 = 0 ↔ pd_D A (List.range (i + 1)) = 0 := by
      rw [lg_cmp_eq]
      rcases sg_pm (i + 1) with e | e
      · rw [hp, e, Int.one_mul, jl_z (by omega) (by omega)]
      · rw [hp, e, jl_z (by omega) (by omega)]
        omega
    by_cases q : pd_D A (List.range (i + 1)) = 0
    · rw [if_pos (heq.mpr q)]
      exact ⟨0, i, z1, rfl, a2, h0, Or.inl ⟨rfl, hi, q⟩⟩
    · rw [if_neg (fun e => q (heq.mp e))]
      have big : ∀ p, p + 42 ∉ [20, 21, 22, 23] := fun p m => by
        have : ∀ x ∈ [20, 21, 22, 23], x < 42 := by decide
        have := this _ m
        omega
      obtain ⟨e, k, z', b1, b2, b3, b4⟩ := lp_wk hn hB g f (i + 1) z1 (by omega) (by omega) (by rw [a2.1 6 (by decide)]; exact h6) (fun p hp q hq => by rw [a2.2.2.2 (p + 42) (big p)]; exact hA p hp q hq) a3 (fun j hj => by
        by_cases ej : j = i + 1
        · rw [ej]; exact q
        · exact h0 j (by omega))
      exact ⟨e, k, z', b1, fr_tr b2 a2, b3, b4⟩
theorem f_wk {n : Nat} {A : Nat → Nat → Int} {z : gS} (hn : n ≤ 10) (hB : ∀ j, j ≤ n → -9223372036854775807 ≤ pd_D A (List.range j) ∧ pd_D A (List.range j) ≤ 9223372036854775807) (h6 : z.1 6 = nI n) (hA : ∀ p, p < n → ∀ q, q < n → z.2.2.2 (p + 42) q = jl (A p q)) : ∃ r z', f_E_findWeakUnknown z = some (r, z') ∧ fr [] [] [] [20, 21, 22, 23] z' z ∧ ((∃ k, k < n ∧ r = nI k ∧ (∀ j, j ≤ k → pd_D A (List.range j) ≠ 0) ∧ pd_D A (List.range (k + 1)) = 0) ∨ (r = -1 ∧ (∀ j, j ≤ n → pd_D A (List.range j) ≠ 0) ∧ ∀ k, k ≤ n → z'.2.2.2 20 k = jl (ch_P A (List.range n) k))) := by
  unfold f_E_findWeakUnknown
  rw [if_neg (by decide), let_s, show (0 : Int32).toNatClampNeg = 0 from rfl]
  have hf1 : fr [] [] [] [20, 21, 22, 23] (s_J z 20 (vp_updL (z.2.2.2 20) 0 1)) z := fr_J _ _ (by decide)
  obtain ⟨e, k, z', b1, b2, b3, b4⟩ := lp_wk hn hB n 200 0 (s_J z 20 (vp_updL (z.2.2.2 20) 0 1)) (by omega) (by omega) h6 (fun p hp q hq => by rw [sJ_ne _ _ (show p + 42 ≠ 20 by omega)]; exact hA p hp q hq) (fun k hk => by
    have : k = 0 := by omega
    rw [this, sJ_self, pk_uLs]
    rfl) (fun j hj => by
    have : j = 0 := by omega
    rw [this]
    show pd_D A [] ≠ 0
    rw [pd_D_nil]
    decide)
  have b1' : l_E_findWeakUnknown_9 200 (s_J z 20 (vp_updL (z.2.2.2 20) 0 1)) 0 = some (e, nI k, z') := b1
  rw [b1', bd3_s]
  rcases b4 with ⟨rfl, b5, b6⟩ | ⟨rfl, b5, b6⟩
  · rw [if_pos rfl]
    exact ⟨_, z', rfl, fr_tr b2 hf1, Or.inl ⟨k, b5, rfl, b3, b6⟩⟩
  · rw [if_neg (by decide)]
    exact ⟨_, z', rfl, fr_tr b2 hf1, Or.inr ⟨rfl, by rw [← b5]; exact b3, b6⟩⟩
