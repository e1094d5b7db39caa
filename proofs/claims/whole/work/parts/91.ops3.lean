/-! unbar -/
theorem lp_rm1 : ∀ (f j nb : Nat) (z : gS), 1 ≤ j → j ≤ nb → nb ≤ 10 → nb < j + f → z.1 2 = nI nb → ∃ z' : gS, l_T_removeBar_4 f z (nI j) = some z' ∧ z'.1 = z.1 ∧ (∀ k, k ≠ 6 → k ≠ 7 → k ≠ 8 → z'.2.2.1 k = z.2.2.1 k) ∧ ∀ k, (k = 6 ∨ k = 7 ∨ k = 8) → ∀ i, z'.2.2.1 k i = if j ≤ i + 1 ∧ i + 1 < nb then z.2.2.1 k (i + 1) else z.2.2.1 k i
  | 0, j, nb, z, _, h2, _, h4, _ => absurd h4 (by omega)
  | f + 1, j, nb, z, h1, h2, h3, h4, h5 => by
    rw [l_T_removeBar_4, h5]
    by_cases e : j = nb
    · subst e
      rw [if_pos (nI_le (Nat.le_refl j) (by omega))]
      refine ⟨z, rfl, rfl, fun _ _ _ _ => rfl, fun k _ i => ?_⟩
      rw [if_neg (by omega)]
    · obtain ⟨j', rfl⟩ : ∃ j', j = j' + 1 := ⟨j - 1, by omega⟩
      rw [if_neg (nI_ge (by omega) (by omega))]
      have c1 := ck_in (show j' + 1 < 10 by omega) (by decide)
      have c2 := ck_in (show j' < 10 by omega) (by decide)
      simp only [nI_pred, if_neg c1, if_neg c2, let_s, nI_1]
      rw [nI_clamp (show j' < 2 ^ 31 by omega), nI_clamp (show j' + 1 < 2 ^ 31 by omega)]
      generalize hz3 : s_I (s_I (s_I z 6 (upd (z.2.2.1 6) j' (z.2.2.1 6 (j' + 1)))) 7 (upd ((s_I z 6 (upd (z.2.2.1 6) j' (z.2.2.1 6 (j' + 1)))).2.2.1 7) j' ((s_I z 6 (upd (z.2.2.1 6) j' (z.2.2.1 6 (j' + 1)))).2.2.1 7 (j' + 1)))) 8 (upd ((s_I (s_I z 6 (upd (z.2.2.1 6) j' (z.2.2.1 6 (j' + 1)))) 7 (upd ((s_I z 6 (upd (z.2.2.1 6) j' (z.2.2.1 6 (j' + 1)))).2.2.1 7) j' ((s_I z 6 (upd (z.2.2.1 6) j' (z.2.2.1 6 (j' + 1)))).2.2.1 7 (j' + 1)))).2.2.1 8) j' ((s_I (s_I z 6 (upd (z.2.2.1 6) j' (z.2.2.1 6 (j' + 1)))) 7 (upd ((s_I z 6 (upd (z.2.2.1 6) j' (z.2.2.1 6 (j' + 1)))).2.2.1 7) j' ((s_I z 6 (upd (z.2.2.1 6) j' (z.2.2.1 6 (j' + 1)))).2.2.1 7 (j' + 1)))).2.2.1 8 (j' + 1))) = z3
      have a1 : z3.1 = z.1 := by rw [← hz3]; rfl
      have a2 : ∀ k, k ≠ 6 → k ≠ 7 → k ≠ 8 → z3.2.2.1 k = z.2.2.1 k := fun k q1 q2 q3 => by
        rw [← hz3, sI_ne _ _ q3, sI_ne _ _ q2, sI_ne _ _ q1]
      have a3 : ∀ k, (k = 6 ∨ k = 7 ∨ k = 8) → ∀ i, z3.2.2.1 k i = if i = j' then z.2.2.1 k (j' + 1) else z.2.2.1 k i := fun k hk i => by
        have e9 : z3.2.2.1 k = upd (z.2.2.1 k) j' (z.2.2.1 k (j' + 1)) := by
          rw [← hz3]
          rcases hk with rfl | rfl | rfl <;> rfl
        rw [e9]
        by_cases q : i = j'
        · rw [if_pos q, q, pk_us]
        · rw [if_neg q, pk_un q]
      obtain ⟨z', b1, b2, b3, b4⟩ := lp_rm1 f (j' + 1 + 1) nb z3 (by omega) (by omega) h3 (by omega) (by rw [a1]; exact h5)
      refine ⟨z', b1, b2.trans a1, fun k q1 q2 q3 => (b3 k q1 q2 q3).trans (a2 k q1 q2 q3), fun k hk i => ?_⟩
      rw [b4 k hk i, a3 k hk, a3 k hk]
      by_cases q1 : i = j'
      · rw [if_neg (by omega), if_pos q1, if_pos (by omega), q1]
      · by_cases q2 : j' + 1 + 1 ≤ i + 1 ∧ i + 1 < nb
        · rw [if_pos q2, if_neg (by omega), if_pos (by omega)]
        · rw [if_neg q2, if_neg q1, if_neg (by omega)]
theorem lp_rm2 : ∀ (f j nb : Nat) (z : gS), j ≤ nb → nb ≤ 9 → nb < j + f → z.1 0 = nI nb → ∃ z' : gS, l_M_unbar_36 f z (nI j) = some z' ∧ z'.1 = z.1 ∧ (∀ k, k ≠ 4 → k ≠ 5 → k ≠ 6 → z'.2.2.1 k = z.2.2.1 k) ∧ ∀ k, (k = 4 ∨ k = 5 ∨ k = 6) → ∀ i, z'.2.2.1 k i = if j ≤ i ∧ i < nb then z.2.2.1 k (i + 1) else z.2.2.1 k i
  | 0, j, nb, z, h2, _, h4, _ => absurd h4 (by omega)
  | f + 1, j, nb, z, h2, h3, h4, h5 => by
    rw [l_M_unbar_36, h5]
    by_cases e : j = nb
    · subst e
      rw [if_pos (nI_le (Nat.le_refl j) (by omega))]
      refine ⟨z, rfl, rfl, fun _ _ _ _ => rfl, fun k _ i => ?_⟩
      rw [if_neg (by omega)]
    · rw [if_neg (nI_ge (by omega) (by omega))]
      have c1 := ck_in (show j + 1 < 10 by omega) (by decide)
      have c2 := ck_in (show j < 10 by omega) (by decide)
      simp only [nI_1, if_neg c1, if_neg c2, let_s]
      rw [nI_clamp (show j < 2 ^ 31 by omega), nI_clamp (show j + 1 < 2 ^ 31 by omega)]
      generalize hz3 : s_I (s_I (s_I z 4 (upd (z.2.2.1 4) j (z.2.2.1 4 (j + 1)))) 5 (upd ((s_I z 4 (upd (z.2.2.1 4) j (z.2.2.1 4 (j + 1)))).2.2.1 5) j ((s_I z 4 (upd (z.2.2.1 4) j (z.2.2.1 4 (j + 1)))).2.2.1 5 (j + 1)))) 6 (upd ((s_I (s_I z 4 (upd (z.2.2.1 4) j (z.2.2.1 4 (j + 1)))) 5 (upd ((s_I z 4 (upd (z.2.2.1 4) j (z.2.2.1 4 (j + 1)))).2.2.1 5) j ((s_I z 4 (upd (z.2.2.1 4) j (z.2.2.1 4 (j + 1)))).2.2.1 5 (j + 1)))).2.2.1 6) j ((s_I (s_I z 4 (upd (z.2.2.1 4) j (z.2.2.1 4 (j + 1)))) 5 (upd ((s_I z 4 (upd (z.2.2.1 4) j (z.2.2.1 4 (j + 1)))).2.2.1 5) j ((s_I z 4 (upd (z.2.2.1 4) j (z.2.2.1 4 (j + 1)))).2.2.1 5 (j + 1)))).2.2.1 6 (j + 1))) = z3
      have a1 : z3.1 = z.1 := by rw [← hz3]; rfl
      have a2 : ∀ k, k ≠ 4 → k ≠ 5 → k ≠ 6 → z3.2.2.1 k = z.2.2.1 k := fun k q1 q2 q3 => by
        rw [← hz3, sI_ne _ _ q3, sI_ne _ _ q2, sI_ne _ _ q1]
      have a3 : ∀ k, (k = 4 ∨ k = 5 ∨ k = 6) → ∀ i, z3.2.2.1 k i = if i = j then z.2.2.1 k (j + 1) else z.2.2.1 k i := fun k hk i => by
        have e9 : z3.2.2.1 k = upd (z.2.2.1 k) j (z.2.2.1 k (j + 1)) := by
          rw [← hz3]
          rcases hk with rfl | rfl | rfl <;> rfl
        rw [e9]
        by_cases q : i = j
        · rw [if_pos q, q, pk_us]
        · rw [if_neg q, pk_un q]
      obtain ⟨z', b1, b2, b3, b4⟩ := lp_rm2 f (j + 1) nb z3 (by omega) h3 (by omega) (by rw [a1]; exact h5)
      refine ⟨z', b1, b2.trans a1, fun k q1 q2 q3 => (b3 k q1 q2 q3).trans (a2 k q1 q2 q3), fun k hk i => ?_⟩
      rw [b4 k hk i, a3 k hk, a3 k hk]
      by_cases q1 : i = j
      · rw [if_neg (by omega), if_pos q1, if_pos (by omega), q1]
      · by_cases q2 : j + 1 ≤ i ∧ i < nb
        · rw [if_pos q2, if_neg (by omega), if_pos (by omega)]
        · rw [if_neg q2, if_neg q1, if_neg (by omega)]
theorem ok_unbar {SK : skT} {z1 z2 : gS} {p1 : Int32} (h : iv SK z1 z2) : ∃ r w1 w2, f_S_unbar z1 p1 = some (r, w1) ∧ f_M_unbar z2 p1 = some (r, w2) ∧ iv SK w1 w2 := by
  unfold f_S_unbar f_M_unbar f_S_isBarThere
  obtain ⟨mk, nb, pt, fi, se, st, hd, sp, ha, ld, hb, hs⟩ := id h
  obtain ⟨⟨m1, m2, m3, m4, m5⟩, b2, b3, b4, b5, b6, b7, b8⟩ := hb
  by_cases c1 : p1 < 0
  · simp only [if_pos c1, bd2_s, if_true]
    exact ⟨-1, z1, z2, rfl, rfl, h⟩
  by_cases c2 : nI nb ≤ p1
  · have c3 : ¬ p1 < nI nb := by
      rw [Int32.lt_iff_toInt_lt]
      rw [Int32.le_iff_toInt_le] at c2
      omega
    simp only [if_neg c1, m4, m5, if_pos c2, if_neg c3, bd2_s, if_true]
    exact ⟨-1, z1, z2, rfl, rfl, h⟩
  have c3 : p1 < nI nb := by
    rw [Int32.lt_iff_toInt_lt]
    rw [Int32.le_iff_toInt_le] at c2
    omega
  obtain ⟨i, hi, rfl⟩ := ix_of nb rfl (by omega) c1 c2
  simp only [if_neg c1, m4, m5, if_neg c2, if_pos c3, bd2_s, if_neg c_one]
  rcases hs with ⟨s1, s2⟩ | ⟨s1, s2, s3⟩
  case inr =>
    simp only [s1, s2, if_neg c_one]
    exact ⟨-4, z1, z2, rfl, rfl, h⟩
  simp only [s1, s2, if_true]
  obtain ⟨nm, rfl⟩ : ∃ nm, nb = nm + 1 := ⟨nb - 1, by omega⟩
  unfold f_T_removeBar
  obtain ⟨y1, e1, e2, e3, e4⟩ := lp_rm1 200 (i + 1) (nm + 1) z1 (by omega) (by omega) m2 (by omega) m4
  obtain ⟨y2, g1, g2, g3, g4⟩ := lp_rm2 200 i nm (s_i z2 0 (nI nm)) (by omega) (by omega) (by omega) (si_self _ _ _)
  simp only [let_s, nI_1, e1, bd1_s, nI_pred, g1, e2, m4, g2, si_self]
  refine ⟨nI nm, _, _, rfl, rfl, mk, nm, pt, fun q => if i ≤ q then fi (q + 1) else fi q, fun q => if i ≤ q then se (q + 1) else se q, fun q => if i ≤ q then st (q + 1) else st q, hd, sp, ha, ld, ⟨⟨m1, by omega, ?_, ?_, ?_⟩, ?_, ?_, fun q hq => ?_, ?_, ?_, ?_, fun c hc q hq => ?_⟩, Or.inl ⟨?_, ?_⟩⟩
  · rw [si_ne _ _ (by decide), e2]; exact m3
  · rw [si_self]
  · rw [g2, si_self]
  · rw [g3 1 (by decide) (by decide) (by decide)]; exact b2
  · rw [si_2, e3 5 (by decide) (by decide) (by decide), g3 2 (by decide) (by decide) (by decide), g3 3 (by decide) (by decide) (by decide)]; exact b3
  · rw [si_2, e4 6 (by decide) q, e4 7 (by decide) q, e4 8 (by decide) q, g4 4 (by decide) q, g4 5 (by decide) q, g4 6 (by decide) q, si_2]
    by_cases k : i ≤ q
    · simp only [if_pos k, if_pos (show i + 1 ≤ q + 1 ∧ q + 1 < nm + 1 by omega), if_pos (show i ≤ q ∧ q < nm by omega)]
      exact b4 (q + 1) (by omega)
    · simp only [if_neg k, if_neg (show ¬ (i + 1 ≤ q + 1 ∧ q + 1 < nm + 1) by omega), if_neg (show ¬ (i ≤ q ∧ q < nm) by omega)]
      exact b4 q (by omega)
  · rw [si_2, e3 9 (by decide) (by decide) (by decide), g3 7 (by decide) (by decide) (by decide)]; exact b5
  · rw [si_2, e3 10 (by decide) (by decide) (by decide), g3 8 (by decide) (by decide) (by decide)]; exact b6
  · rw [si_2, e3 11 (by decide) (by decide) (by decide), g3 9 (by decide) (by decide) (by decide)]; exact b7
  · rw [si_2, e3 (c + 28) (by omega) (by omega) (by omega), g3 10 (by decide) (by decide) (by decide)]; exact b8 c hc q hq
  · rw [si_ne _ _ (by decide), e2]; exact s1
  · rw [g2, si_ne _ _ (by decide)]; exact s2
