/-! The reference's order: who is joined with whom, how many neighbours -/
def jnd (fi se : Nat → Nat) (a b i : Nat) : Prop := (fi i = a ∧ se i = b) ∨ (fi i = b ∧ se i = a)
theorem nb_bit {fi se : Nat → Nat} {a b : Nat} (ha : a < 5) (hb : b < 5) : ∀ nb, (∀ i, i < nb → fi i < 5 ∧ se i < 5 ∧ fi i ≠ se i) → nbS fi se nb a < 32 ∧ ((bt5 (nbS fi se nb a) b = 1 ∧ ∃ i, i < nb ∧ jnd fi se a b i) ∨ (bt5 (nbS fi se nb a) b = 0 ∧ ¬ ∃ i, i < nb ∧ jnd fi se a b i))
  | 0, _ => ⟨by show 0 < 32; decide, Or.inr ⟨by show 0 / 2 ^ b % 2 = 0; simp, fun ⟨i, hi, _⟩ => absurd hi (Nat.not_lt_zero i)⟩⟩
  | nb + 1, h => by
    obtain ⟨h1, h2⟩ := nb_bit ha hb nb (fun i hi => h i (by omega))
    obtain ⟨p1, p2, p3⟩ := h nb (by omega)
    have step : ∀ c, c < 5 → (nbS fi se nb a ||| 2 ^ c < 32 ∧ bt5 (nbS fi se nb a ||| 2 ^ c) b = if b = c then 1 else bt5 (nbS fi se nb a) b) := fun c hc => ⟨(bit_or _ h1 c hc).2, bit_get _ h1 c hc b hb⟩
    have old : (∃ i, i < nb ∧ jnd fi se a b i) → ∃ i, i < nb + 1 ∧ jnd fi se a b i := fun ⟨i, hi, hj⟩ => ⟨i, by omega, hj⟩
    have new : ¬ jnd fi se a b nb → (¬ ∃ i, i < nb ∧ jnd fi se a b i) → ¬ ∃ i, i < nb + 1 ∧ jnd fi se a b i := fun q1 q2 ⟨i, hi, hj⟩ => by
      by_cases e : i = nb
      · exact q1 (e ▸ hj)
      · exact q2 ⟨i, by omega, hj⟩
    show (if a = fi nb then nbS fi se nb a ||| 2 ^ (se nb) else if a = se nb then nbS fi se nb a ||| 2 ^ (fi nb) else nbS fi se nb a) < 32 ∧ ((bt5 (if a = fi nb then nbS fi se nb a ||| 2 ^ (se nb) else if a = se nb then nbS fi se nb a ||| 2 ^ (fi nb) else nbS fi se nb a) b = 1 ∧ _) ∨ (bt5 (if a = fi nb then nbS fi se nb a ||| 2 ^ (se nb) else if a = se nb then nbS fi se nb a ||| 2 ^ (fi nb) else nbS fi se nb a) b = 0 ∧ _))
    by_cases e1 : a = fi nb
    · rw [if_pos e1]
      obtain ⟨s1, s2⟩ := step (se nb) p2
      refine ⟨s1, ?_⟩
      rw [s2]
      by_cases q : b = se nb
      · rw [if_pos q]
        exact Or.inl ⟨rfl, nb, by omega, Or.inl ⟨e1.symm, q.symm⟩⟩
      · rw [if_neg q]
        have hj : ¬ jnd fi se a b nb := fun hj => by
          rcases hj with ⟨r1, r2⟩ | ⟨r1, r2⟩
          · exact q r2.symm
          · exact p3 (by rw [← e1, r2])
        rcases h2 with ⟨r1, r2⟩ | ⟨r1, r2⟩
        · exact Or.inl ⟨r1, old r2⟩
        · exact Or.inr ⟨r1, new hj r2⟩
    · rw [if_neg e1]
      by_cases e2 : a = se nb
      · rw [if_pos e2]
        obtain ⟨s1, s2⟩ := step (fi nb) p1
        refine ⟨s1, ?_⟩
        rw [s2]
        by_cases q : b = fi nb
        · rw [if_pos q]
          exact Or.inl ⟨rfl, nb, by omega, Or.inr ⟨q.symm, e2.symm⟩⟩
        · rw [if_neg q]
          have hj : ¬ jnd fi se a b nb := fun hj => by
            rcases hj with ⟨r1, r2⟩ | ⟨r1, r2⟩
            · exact e1 r1.symm
            · exact q r1.symm
          rcases h2 with ⟨r1, r2⟩ | ⟨r1, r2⟩
          · exact Or.inl ⟨r1, old r2⟩
          · exact Or.inr ⟨r1, new hj r2⟩
      · rw [if_neg e2]
        have hj : ¬ jnd fi se a b nb := fun hj => by
          rcases hj with ⟨r1, r2⟩ | ⟨r1, r2⟩
          · exact e1 r1.symm
          · exact e2 r2.symm
        refine ⟨h1, ?_⟩
        rcases h2 with ⟨r1, r2⟩ | ⟨r1, r2⟩
        · exact Or.inl ⟨r1, old r2⟩
        · exact Or.inr ⟨r1, new hj r2⟩
/-- the bars as the reference has them -/
def rbars (z : gS) (nb : Nat) (fi se : Nat → Nat) : Prop := nb ≤ 10 ∧ z.1 0 = nI nb ∧ ∀ i, i < nb → z.2.2.1 4 i = nI (fi i) ∧ z.2.2.1 5 i = nI (se i) ∧ fi i < 5 ∧ se i < 5 ∧ fi i ≠ se i
theorem nI_iff {a b : Nat} (ha : a < 5) (hb : b < 5) : nI a = nI b ↔ a = b := nI_eq (by omega) (by omega)
theorem lp_joined {z : gS} {nb : Nat} {fi se : Nat → Nat} (hz : rbars z nb fi se) {a b : Nat} (ha : a < 5) (hb : b < 5) : ∀ (g f j : Nat), j + g = nb → g < f → ∃ e, l_M_joined_2 f z (nI a) (nI b) (nI j) = some (e, z) ∧ ((e = 0 ∧ ∃ i, j ≤ i ∧ i < nb ∧ jnd fi se a b i) ∨ (e = 1 ∧ ¬ ∃ i, j ≤ i ∧ i < nb ∧ jnd fi se a b i))
  | 0, f + 1, j, h1, h2 => by
    rw [l_M_joined_2, hz.2.1, if_pos (nI_le (show nb ≤ j by omega) (by have := hz.1; omega))]
    exact ⟨1, rfl, Or.inr ⟨rfl, fun ⟨i, q1, q2, _⟩ => by omega⟩⟩
  | g + 1, f + 1, j, h1, h2 => by
    have hj : j < nb := by omega
    have hn := hz.1
    have ck := ck_in (show j < 10 by omega) (by decide)
    obtain ⟨e1, e2, e3, e4, e5⟩ := hz.2.2 j hj
    obtain ⟨e, i1, i2⟩ := lp_joined hz ha hb g f (j + 1) (by omega) (by omega)
    rw [l_M_joined_2, hz.2.1, if_neg (nI_ge hj (by omega))]
    simp only [if_neg ck, nI_1]
    simp only [nI_clamp (show j < 2 ^ 31 by omega), e1, e2, nI_iff e3 ha, nI_iff e3 hb, nI_iff e4 ha, nI_iff e4 hb, i1]
    have goon : ¬ jnd fi se a b j → ((e = 0 ∧ ∃ i, j ≤ i ∧ i < nb ∧ jnd fi se a b i) ∨ (e = 1 ∧ ¬ ∃ i, j ≤ i ∧ i < nb ∧ jnd fi se a b i)) := fun q => by
      rcases i2 with ⟨r1, i, r2, r3, r4⟩ | ⟨r1, r2⟩
      · exact Or.inl ⟨r1, i, by omega, r3, r4⟩
      · refine Or.inr ⟨r1, fun ⟨i, q1, q2, q3⟩ => ?_⟩
        by_cases ei : i = j
        · exact q (ei ▸ q3)
        · exact r2 ⟨i, by omega, q2, q3⟩
    by_cases c1 : fi j = a
    · by_cases c2 : se j = b
      · simp only [if_pos c1, if_pos c2]
        exact ⟨0, rfl, Or.inl ⟨rfl, j, Nat.le_refl j, hj, Or.inl ⟨c1, c2⟩⟩⟩
      · have hs : ¬ se j = a := fun q => e5 (c1.trans q.symm)
        have hq : ¬ jnd fi se a b j := fun q => by
          rcases q with ⟨r1, r2⟩ | ⟨r1, r2⟩
          · exact c2 r2
          · exact hs r2
        simp only [if_pos c1, if_neg c2, if_neg hs, ite_self]
        exact ⟨e, rfl, goon hq⟩
    · by_cases c3 : fi j = b
      · by_cases c4 : se j = a
        · simp only [if_neg c1, if_pos c3, if_pos c4]
          exact ⟨0, rfl, Or.inl ⟨rfl, j, Nat.le_refl j, hj, Or.inr ⟨c3, c4⟩⟩⟩
        · have hq : ¬ jnd fi se a b j := fun q => by
            rcases q with ⟨r1, r2⟩ | ⟨r1, r2⟩
            · exact c1 r1
            · exact c4 r2
          simp only [if_neg c1, if_pos c3, if_neg c4]
          exact ⟨e, rfl, goon hq⟩
      · have hq : ¬ jnd fi se a b j := fun q => by
          rcases q with ⟨r1, r2⟩ | ⟨r1, r2⟩
          · exact c1 r1
          · exact c3 r1
        simp only [if_neg c1, if_neg c3]
        exact ⟨e, rfl, goon hq⟩
theorem f_joined {z : gS} {nb : Nat} {fi se : Nat → Nat} (hz : rbars z nb fi se) {a b : Nat} (ha : a < 5) (hb : b < 5) : f_M_joined z (nI a) (nI b) = some (nI (bt5 (nbS fi se nb a) b), z) := by
  unfold f_M_joined
  obtain ⟨e, i1, i2⟩ := lp_joined hz ha hb nb 200 0 (by omega) (by have := hz.1; omega)
  have i1' : l_M_joined_2 200 z (nI a) (nI b) 0 = some (e, z) := i1
  rw [i1', bd2_s]
  have hb2 := (nb_bit (fi := fi) (se := se) ha hb nb (fun i hi => (hz.2.2 i hi).2.2)).2
  rcases i2 with ⟨rfl, i, -, q2, q3⟩ | ⟨rfl, q⟩
  · rw [if_pos rfl]
    rcases hb2 with ⟨r1, r2⟩ | ⟨r1, r2⟩
    · rw [r1]; rfl
    · exact absurd ⟨i, q2, q3⟩ r2
  · rw [if_neg (by decide)]
    rcases hb2 with ⟨r1, i, r2, r3⟩ | ⟨r1, r2⟩
    · exact absurd ⟨i, Nat.zero_le i, r2, r3⟩ q
    · rw [r1]; rfl
