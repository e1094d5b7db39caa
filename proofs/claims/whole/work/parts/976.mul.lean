/-! Rows of the matrix times a vector, as the program has them -/
theorem mx_rs (n : Nat) (f : Nat → Int) : mx_sum (List.range (n + 1)) f = mx_sum (List.range n) f + f n := by
  rw [List.range_succ, mx_sum_app]
  simp only [mx_sum]
  omega
theorem lp_rt22 {z : gS} {row len : Nat} {A : Nat → Nat → Int} {v : Nat → Int} (hr : row < 10) (hl : len ≤ 10) (hA : ∀ q, q < len → z.2.2.2 (row + 42) q = jl (A row q)) (hv : ∀ q, q < len → z.2.2.2 22 q = jl (v q)) : ∀ (g f j : Nat), j + g = len → g < f → l_E_rowTimes_22_6 f z (nI row) (nI len) (jl (mx_sum (List.range j) (fun q => A row q * v q))) (nI j) = some (jl (mx_sum (List.range len) (fun q => A row q * v q)), z)
  | 0, f + 1, j, hg, hf => by
    have : j = len := by omega
    subst this
    rw [l_E_rowTimes_22_6, if_pos (nI_le (Nat.le_refl _) (by omega))]
  | g + 1, f + 1, j, hg, hf => by
    have hj : j < len := by omega
    have c1 := ck_in hr (by decide)
    have c2 := ck_in (show j < 10 by omega) (by decide)
    rw [l_E_rowTimes_22_6, if_neg (nI_ge hj (by omega))]
    simp only [if_neg c1, if_neg c2, let_s]
    rw [nI_clamp (show row < 2 ^ 31 by omega), nI_clamp (show j < 2 ^ 31 by omega), hA j hj, hv j hj, jl_mul, jl_add, nI_1, ← mx_rs j (fun q => A row q * v q)]
    exact lp_rt22 hr hl hA hv g f (j + 1) (by omega) (by omega)
theorem f_rt22 {z : gS} {row len : Nat} {A : Nat → Nat → Int} {v : Nat → Int} (hr : row < 10) (hl : len ≤ 10) (hA : ∀ q, q < len → z.2.2.2 (row + 42) q = jl (A row q)) (hv : ∀ q, q < len → z.2.2.2 22 q = jl (v q)) : f_E_rowTimes_22 z (nI row) (nI len) = some (jl (mx_sum (List.range len) (fun q => A row q * v q)), z) := by
  unfold f_E_rowTimes_22
  have h := lp_rt22 hr hl hA hv len 200 0 (by omega) (by omega)
  have h' : l_E_rowTimes_22_6 200 z (nI row) (nI len) 0 0 = some (jl (mx_sum (List.range len) (fun q => A row q * v q)), z) := h
  rw [h', bd2_s]
theorem lp_mu22 {len : Nat} {A : Nat → Nat → Int} {v : Nat → Int} (hl : len ≤ 10) : ∀ (g f j : Nat) (z : gS), j + g = len → g < f → (∀ p, p < len → ∀ q, q < len → z.2.2.2 (p + 42) q = jl (A p q)) → (∀ q, q < len → z.2.2.2 22 q = jl (v q)) → (∀ p, p < j → z.2.2.2 23 p = jl (mx_sum (List.range len) (fun q => A p q * v q))) → ∃ z', l_E_multiply_22_2 f z (nI len) (nI j) = some (nI len, z') ∧ fr [] [] [] [23] z' z ∧ ∀ p, p < len → z'.2.2.2 23 p = jl (mx_sum (List.range len) (fun q => A p q * v q))
  | 0, f + 1, j, z, hg, hf, hA, hv, hz => by
    have : j = len := by omega
    subst this
    rw [l_E_multiply_22_2, if_pos (nI_le (Nat.le_refl _) (by omega))]
    exact ⟨z, rfl, fr_rf _ _ _ _ z, hz⟩
  | g + 1, f + 1, j, z, hg, hf, hA, hv, hz => by
    have hj : j < len := by omega
    have c2 := ck_in (show j < 10 by omega) (by decide)
    rw [l_E_multiply_22_2, if_neg (nI_ge hj (by omega)), f_rt22 (show j < 10 by omega) hl (hA j hj) hv, bd2_s, if_neg c2, let_s, nI_clamp (show j < 2 ^ 31 by omega), nI_1]
    have hf1 : fr [] [] [] [23] (s_J z 23 (vp_updL (z.2.2.2 23) j (jl (mx_sum (List.range len) (fun q => A j q * v q))))) z := fr_J _ _ (by decide)
    obtain ⟨z', b1, b2, b3⟩ := lp_mu22 hl g f (j + 1) (s_J z 23 (vp_updL (z.2.2.2 23) j (jl (mx_sum (List.range len) (fun q => A j q * v q))))) (by omega) (by omega) (fun p hp q hq => by rw [sJ_ne _ _ (show p + 42 ≠ 23 by omega)]; exact hA p hp q hq) (fun q hq => by rw [sJ_ne _ _ (show 22 ≠ 23 by decide)]; exact hv q hq) (fun p hp => by
      rw [sJ_self]
      by_cases e : p = j
      · rw [e, pk_uLs]
      · rw [pk_uLn e]; exact hz p (by omega))
    exact ⟨z', b1, fr_tr b2 hf1, b3⟩
theorem f_mu22 {z : gS} {len : Nat} {A : Nat → Nat → Int} {v : Nat → Int} (hl : len ≤ 10) (hA : ∀ p, p < len → ∀ q, q < len → z.2.2.2 (p + 42) q = jl (A p q)) (hv : ∀ q, q < len → z.2.2.2 22 q = jl (v q)) : ∃ z', f_E_multiply_22 z (nI len) = some z' ∧ fr [] [] [] [22, 23] z' z ∧ ∀ p, p < len → z'.2.2.2 22 p = jl (mx_sum (List.range len) (fun q => A p q * v q)) := by
  unfold f_E_multiply_22
  obtain ⟨z1, b1, b2, b3⟩ := lp_mu22 hl len 200 0 z (by omega) (by omega) hA hv (fun p hp => absurd hp (Nat.not_lt_zero p))
  have b1' : l_E_multiply_22_2 200 z (nI len) 0 = some (nI len, z1) := b1
  have e0 : (0 : Int32).toNatClampNeg = 0 := rfl
  rw [b1', bd2_s, let_s, e0, nI_clamp (show len < 2 ^ 31 by omega), if_neg (by
    intro h
    rcases h with h | h | h | h | h
    · exact absurd h (by decide)
    · exact absurd h (by decide)
    · exact nI_pos (by omega) h
    · omega
    · omega)]
  refine ⟨_, rfl, fr_tr (fr_J _ _ (by decide)) (fr_w b2 (by decide) (by decide) (by decide) (by decide)), fun p hp => ?_⟩
  rw [sJ_self, pk_cpy_in (by omega) (by omega), Nat.sub_zero, Nat.zero_add]
  exact b3 p hp
theorem lp_rt27 {z : gS} {row len : Nat} {A : Nat → Nat → Int} {v : Nat → Int} (hr : row < 10) (hl : len ≤ 10) (hA : ∀ q, q < len → z.2.2.2 (row + 42) q = jl (A row q)) (hv : ∀ q, q < len → z.2.2.2 27 q = jl (v q)) : ∀ (g f j : Nat), j + g = len → g < f → l_E_rowTimes_27_6 f z (nI row) (nI len) (jl (mx_sum (List.range j) (fun q => A row q * v q))) (nI j) = some (jl (mx_sum (List.range len) (fun q => A row q * v q)), z)
  | 0, f + 1, j, hg, hf => by
    have : j = len := by omega
    subst this
    rw [l_E_rowTimes_27_6, if_pos (nI_le (Nat.le_refl _) (by omega))]
  | g + 1, f + 1, j, hg, hf => by
    have hj : j < len := by omega
    have c1 := ck_in hr (by decide)
    have c2 := ck_in (show j < 10 by omega) (by decide)
    rw [l_E_rowTimes_27_6, if_neg (nI_ge hj (by omega))]
    simp only [if_neg c1, if_neg c2, let_s]
    rw [nI_clamp (show row < 2 ^ 31 by omega), nI_clamp (show j < 2 ^ 31 by omega), hA j hj, hv j hj, jl_mul, jl_add, nI_1, ← mx_rs j (fun q => A row q * v q)]
    exact lp_rt27 hr hl hA hv g f (j + 1) (by omega) (by omega)
theorem f_rt27 {z : gS} {row len : Nat} {A : Nat → Nat → Int} {v : Nat → Int} (hr : row < 10) (hl : len ≤ 10) (hA : ∀ q, q < len → z.2.2.2 (row + 42) q = jl (A row q)) (hv : ∀ q, q < len → z.2.2.2 27 q = jl (v q)) : f_E_rowTimes_27 z (nI row) (nI len) = some (jl (mx_sum (List.range len) (fun q => A row q * v q)), z) := by
  unfold f_E_rowTimes_27
  have h := lp_rt27 hr hl hA hv len 200 0 (by omega) (by omega)
  have h' : l_E_rowTimes_27_6 200 z (nI row) (nI len) 0 0 = some (jl (mx_sum (List.range len) (fun q => A row q * v q)), z) := h
  rw [h', bd2_s]
theorem lp_mu27 {len : Nat} {A : Nat → Nat → Int} {v : Nat → Int} (hl : len ≤ 10) : ∀ (g f j : Nat) (z : gS), j + g = len → g < f → (∀ p, p < len → ∀ q, q < len → z.2.2.2 (p + 42) q = jl (A p q)) → (∀ q, q < len → z.2.2.2 27 q = jl (v q)) → (∀ p, p < j → z.2.2.2 23 p = jl (mx_sum (List.range len) (fun q => A p q * v q))) → ∃ z', l_E_multiply_27_2 f z (nI len) (nI j) = some (nI len, z') ∧ fr [] [] [] [23] z' z ∧ ∀ p, p < len → z'.2.2.2 23 p = jl (mx_sum (List.range len) (fun q => A p q * v q))
  | 0, f + 1, j, z, hg, hf, hA, hv, hz => by
    have : j = len := by omega
    subst this
    rw [l_E_multiply_27_2, if_pos (nI_le (Nat.le_refl _) (by omega))]
    exact ⟨z, rfl, fr_rf _ _ _ _ z, hz⟩
  | g + 1, f + 1, j, z, hg, hf, hA, hv, hz => by
    have hj : j < len := by omega
    have c2 := ck_in (show j < 10 by omega) (by decide)
    rw [l_E_multiply_27_2, if_neg (nI_ge hj (by omega)), f_rt27 (show j < 10 by omega) hl (hA j hj) hv, bd2_s, if_neg c2, let_s, nI_clamp (show j < 2 ^ 31 by omega), nI_1]
    have hf1 : fr [] [] [] [23] (s_J z 23 (vp_updL (z.2.2.2 23) j (jl (mx_sum (List.range len) (fun q => A j q * v q))))) z := fr_J _ _ (by decide)
    obtain ⟨z', b1, b2, b3⟩ := lp_mu27 hl g f (j + 1) (s_J z 23 (vp_updL (z.2.2.2 23) j (jl (mx_sum (List.range len) (fun q => A j q * v q))))) (by omega) (by omega) (fun p hp q hq => by rw [sJ_ne _ _ (show p + 42 ≠ 23 by omega)]; exact hA p hp q hq) (fun q hq => by rw [sJ_ne _ _ (show 27 ≠ 23 by decide)]; exact hv q hq) (fun p hp => by
      rw [sJ_self]
      by_cases e : p = j
      · rw [e, pk_uLs]
      · rw [pk_uLn e]; exact hz p (by omega))
    exact ⟨z', b1, fr_tr b2 hf1, b3⟩
theorem f_mu27 {z : gS} {len : Nat} {A : Nat → Nat → Int} {v : Nat → Int} (hl : len ≤ 10) (hA : ∀ p, p < len → ∀ q, q < len → z.2.2.2 (p + 42) q = jl (A p q)) (hv : ∀ q, q < len → z.2.2.2 27 q = jl (v q)) : ∃ z', f_E_multiply_27 z (nI len) = some z' ∧ fr [] [] [] [23, 27] z' z ∧ ∀ p, p < len → z'.2.2.2 27 p = jl (mx_sum (List.range len) (fun q => A p q * v q)) := by
  unfold f_E_multiply_27
  obtain ⟨z1, b1, b2, b3⟩ := lp_mu27 hl len 200 0 z (by omega) (by omega) hA hv (fun p hp => absurd hp (Nat.not_lt_zero p))
  have b1' : l_E_multiply_27_2 200 z (nI len) 0 = some (nI len, z1) := b1
  have e0 : (0 : Int32).toNatClampNeg = 0 := rfl
  rw [b1', bd2_s, let_s, e0, nI_clamp (show len < 2 ^ 31 by omega), if_neg (by
    intro h
    rcases h with h | h | h | h | h
    · exact absurd h (by decide)
    · exact absurd h (by decide)
    · exact nI_pos (by omega) h
    · omega
    · omega)]
  refine ⟨_, rfl, fr_tr (fr_J _ _ (by decide)) (fr_w b2 (by decide) (by decide) (by decide) (by decide)), fun p hp => ?_⟩
  rw [sJ_self, pk_cpy_in (by omega) (by omega), Nat.sub_zero, Nat.zero_add]
  exact b3 p hp
