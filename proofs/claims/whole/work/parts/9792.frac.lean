/-! Fractions: Euclid -/
def eu : Nat → Int64 → Int64 → Int64
  | 0, a, _ => a
  | t + 1, a, b => if b = 0 then a else eu t b (a - a / b * b)
def ed : Nat → Int64 → Int64 → Prop
  | 0, _, b => b = 0
  | t + 1, a, b => b = 0 ∨ ed t b (a - a / b * b)
theorem eu_z (t : Nat) (a : Int64) : eu t a 0 = a := by
  match t with
  | 0 => rfl
  | t + 1 => exact if_pos rfl
theorem eu_ne : ∀ (t : Nat) (a b : Int64), b ≠ 0 → ed t a b → eu t a b ≠ 0
  | 0, _, _, h, e => absurd e h
  | t + 1, a, b, h, e => by
    have e2 : ed t b (a - a / b * b) := by
      rcases e with e | e
      · exact absurd e h
      · exact e
    show (if b = 0 then a else eu t b (a - a / b * b)) ≠ 0
    rw [if_neg h]
    by_cases q : a - a / b * b = 0
    · rw [q, eu_z]; exact h
    · exact eu_ne t b _ q e2
theorem rem_abs (a b : Int64) (h : b ≠ 0) : (a - a / b * b).toInt.natAbs = a.toInt.natAbs % b.toInt.natAbs := by
  have hb : b.toInt ≠ 0 := fun e => h (by rw [jl_of b, e]; rfl)
  have h1 := Int64.le_toInt b
  have h2 := Int64.toInt_lt b
  have h3 : (a.toInt.tmod b.toInt).natAbs < b.toInt.natAbs := by
    rw [Int.natAbs_tmod]
    exact Nat.mod_lt _ (by omega)
  rw [jl_rem, jl_toInt (by omega) (by omega), Int.natAbs_tmod]
theorem ed_k : ∀ (k : Nat) (a b : Int64), b.toInt.natAbs < 2 ^ k → ed (2 * k + 1) a b
  | 0, a, b, h => by
    refine Or.inl ?_
    have e : b.toInt = 0 := by
      have : b.toInt.natAbs < 1 := h
      omega
    rw [jl_of b, e]
    rfl
  | k + 1, a, b, h => by
    show b = 0 ∨ ed (2 * k + 2) b (a - a / b * b)
    by_cases q : b = 0
    · exact Or.inl q
    refine Or.inr ?_
    have h1 := rem_abs a b q
    have hb : b.toInt ≠ 0 := fun e => q (by rw [jl_of b, e]; rfl)
    generalize a - a / b * b = r at h1 ⊢
    show r = 0 ∨ ed (2 * k + 1) r (b - b / r * r)
    by_cases q2 : r = 0
    · exact Or.inl q2
    refine Or.inr (ed_k k r _ ?_)
    have h2 := rem_abs b r q2
    have hr : r.toInt ≠ 0 := fun e => q2 (by rw [jl_of r, e]; rfl)
    rw [h2]
    have h3 : r.toInt.natAbs < b.toInt.natAbs := by
      rw [h1]
      exact Nat.mod_lt _ (by omega)
    have h4 := Nat.div_add_mod b.toInt.natAbs r.toInt.natAbs
    have h5 : 1 ≤ b.toInt.natAbs / r.toInt.natAbs := Nat.div_pos (by omega) (by omega)
    have h6 := Nat.mul_le_mul_left r.toInt.natAbs h5
    have h7 : b.toInt.natAbs % r.toInt.natAbs < r.toInt.natAbs := Nat.mod_lt _ (by omega)
    rw [Nat.pow_succ] at h
    omega
theorem lp_gd {z : gS} : ∀ (t f k : Nat) (a b : Int64), ed t a b → t + k ≤ 100 → t < f → l_S_greatestDivisor_9 f z a b (nI k) = some (eu t a b, z)
  | t, f + 1, k, a, b, he, hk, hf => by
    rw [l_S_greatestDivisor_9]
    by_cases q : b = 0
    · rw [q, eu_z, if_pos (lg_cmp_self 0)]
      by_cases q2 : (100 : Int32) ≤ nI k
      · rw [if_pos q2]
      · rw [if_neg q2]
    · match t, he, hk, hf with
      | 0, he, _, _ => exact absurd he q
      | t + 1, he, hk, hf =>
        have he2 : ed t b (a - a / b * b) := by
          rcases he with e | e
          · exact absurd e q
          · exact e
        rw [if_neg (show ¬ (100 : Int32) ≤ nI k from nI_ge (b := 100) (by omega) (by decide)), if_neg (fun e => q ((lg_cmp_eq _ _).mp e)), if_neg q, let_s, nI_1, show eu (t + 1) a b = eu t b (a - a / b * b) from if_neg q]
        exact lp_gd t f (k + 1) b _ he2 (by omega) (by omega)
  | _, 0, _, _, _, _, _, hf => absurd hf (Nat.not_lt_zero _)
theorem lp_fr {x1 x3 : Int64} {x5 : Int32} : ∀ (t f : Nat) (a b : Int64) (z : gS), ed t a b → t < f → z.2.1 0 = a → z.2.1 1 = b → ∃ z', l_M_fraction_21 f z x1 x3 x5 = some (x1, x3, x5, z') ∧ z'.2.1 0 = eu t a b ∧ fr [] [0, 1] [] [] z' z
  | t, f + 1, a, b, z, he, hf, ha, hb => by
    rw [l_M_fraction_21, ha, hb]
    by_cases q : b = 0
    · rw [q, eu_z, if_pos (lg_cmp_self 0)]
      exact ⟨z, rfl, ha, fr_rf _ _ _ _ z⟩
    · match t, he, hf with
      | 0, he, _ => exact absurd he q
      | t + 1, he, hf =>
        have he2 : ed t b (a - a / b * b) := by
          rcases he with e | e
          · exact absurd e q
          · exact e
        rw [if_neg (fun e => q ((lg_cmp_eq _ _).mp e)), if_neg q, let_s, let_s, let_s, let_s, show eu (t + 1) a b = eu t b (a - a / b * b) from if_neg q]
        obtain ⟨z', c1, c2, c3⟩ := lp_fr (x1 := x1) (x3 := x3) (x5 := x5) t f b (a - a / b * b) (s_l (s_l z 0 b) 1 (a - a / b * b)) he2 (by omega) (by rw [sl_ne _ _ (by decide), sl_self]) (by rw [sl_self])
        exact ⟨z', c1, c2, fr_tr c3 (fr_tr (frl_ _ _ (by decide)) (frl_ _ _ (by decide)))⟩
  | _, 0, _, _, _, _, hf, _, _ => absurd hf (Nat.not_lt_zero _)
theorem ab_eq (p : Int64) : (if 0 < p then p else -p) = if 0 ≤ p then p else -p := by
  by_cases q : 0 < p
  · rw [if_pos q, if_pos (by rw [Int64.le_iff_toInt_le]; rw [Int64.lt_iff_toInt_lt] at q; omega)]
  · by_cases q2 : 0 ≤ p
    · have e : p = 0 := by
        apply Int64.toInt_inj.mp
        rw [Int64.lt_iff_toInt_lt] at q
        rw [Int64.le_iff_toInt_le] at q2
        omega
      rw [e]
      rfl
    · rw [if_neg q, if_neg q2]
theorem f_frac {z w : gS} {D : Int} {num : Int64} {part : Int32} (h0 : 0 < D) (h9 : D < 1099511627776) (hw : f_E_wholeMinor z = some (jl D, z)) : ∃ r w', f_S_partOfFraction z num part = some (r, z) ∧ f_M_fraction w num (jl D) part = some (r, w') ∧ fr [] [0, 1] [] [] w' w := by
  have hD : jl D ≠ 0 := fun e => by
    have := (jl_z (by omega) (by omega)).mp e
    omega
  have hed : ∀ a, ed 81 a (jl D) := fun a => ed_k 40 a (jl D) (by rw [jl_toInt (by omega) (by omega)]; omega)
  unfold f_S_partOfFraction f_M_fraction f_S_greatestDivisor
  rw [hw, bd2_s, ab_eq]
  simp only [lg_cmp_ge, let_s]
  have key : ∀ a : Int64, ∃ r w', (bd2 (bd2 (l_S_greatestDivisor_9 200 z a (jl D) (0 : Int32)) (fun v6 w7 => some (v6, w7))) (fun r6 w5 =>
 if (lg_cmp r6 (0 : Int64)) = 0 then (some ((-4000000000000000000 : Int64), w5))
 else (if part = 0 then (if r6 = 0 then none else
 some ((num / r6), w5))
 else (if r6 = 0 then none else
 some ((jl D / r6), w5))))) = some (r, z) ∧ (bd4 (l_M_fraction_21 200 (s_l (s_l w 0 a) 1 (jl D)) num (jl D) part) (fun v16 v17 v18 w19 =>
 if v18 = 0 then (if (w19.2.1 0) = 0 then none else
 some ((v16 / (w19.2.1 0)), w19))
 else (if (w19.2.1 0) = 0 then none else
 some ((v17 / (w19.2.1 0)), w19)))) = some (r, w') ∧ fr [] [0, 1] [] [] w' w := fun a => by
    have g1 := lp_gd (z := z) 81 200 0 a (jl D) (hed a) (by decide) (by decide)
    have g1' : l_S_greatestDivisor_9 200 z a (jl D) 0 = some (eu 81 a (jl D), z) := g1
    obtain ⟨w', c1, c2, c3⟩ := lp_fr (x1 := num) (x3 := jl D) (x5 := part) 81 200 a (jl D) (s_l (s_l w 0 a) 1 (jl D)) (hed a) (by decide) (by rw [sl_ne _ _ (by decide), sl_self]) (by rw [sl_self])
    have hne := eu_ne 81 a (jl D) hD (hed a)
    have hfr : fr [] [0, 1] [] [] w' w := fr_tr c3 (fr_tr (frl_ _ _ (by decide)) (frl_ _ _ (by decide)))
    rw [g1', bd2_s, bd2_s, if_neg (fun e => hne ((lg_cmp_eq _ _).mp e)), c1, bd4_s, c2]
    simp only [if_neg hne]
    by_cases q : part = 0
    · rw [if_pos q, if_pos q]
      exact ⟨_, w', rfl, rfl, hfr⟩
    · rw [if_neg q, if_neg q]
      exact ⟨_, w', rfl, rfl, hfr⟩
  by_cases q : (0 : Int64) ≤ num
  · rw [if_pos q, if_pos q]
    exact key num
  · rw [if_neg q, if_neg q]
    exact key (-num)
