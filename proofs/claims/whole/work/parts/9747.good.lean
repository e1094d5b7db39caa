/-! The first bad bar -/
def gq (u v : Int32) : Int32 := if u = 0 then 1 else if v = 0 then 1 else if (if 0 ≤ u then u else 0 - u) = (if 0 ≤ v then v else 0 - v) then 1 else 0
def gr (u v : Int32) : Int32 := if u = 0 then 1 else if v = 0 then 1 else if u = v then 1 else if u = -v then 1 else 0
theorem gq_gr : ∀ a, a < 5 → ∀ b, b < 5 → ∀ c, c < 5 → ∀ d, d < 5 → gr (nI a - nI b) (nI c - nI d) = gq (nI a - nI b) (nI c - nI d) := by decide +kernel
def bdB (pt fi se : Nat → Nat) (mk i : Nat) : Bool := Nat.beq (bt5 mk (fi i)) 0 || (Nat.beq (bt5 mk (se i)) 0 || decide (gq (nI (pt (se i * 2)) - nI (pt (fi i * 2))) (nI (pt (se i * 2 + 1)) - nI (pt (fi i * 2 + 1))) = 0))
def fbS (b : Nat → Bool) : Nat → Nat → Nat
  | 0, j => j
  | g + 1, j => if b j = true then j else fbS b g (j + 1)
theorem fbS_le (b : Nat → Bool) : ∀ g j, j ≤ fbS b g j ∧ fbS b g j ≤ j + g ∧ ∀ i, j ≤ i → i < fbS b g j → b i = false
  | 0, j => ⟨Nat.le_refl _, Nat.le_refl _, fun i h1 h2 => absurd h2 (by show ¬ i < j; omega)⟩
  | g + 1, j => by
    show j ≤ (if b j = true then j else fbS b g (j + 1)) ∧ (if b j = true then j else fbS b g (j + 1)) ≤ j + (g + 1) ∧ ∀ i, j ≤ i → i < (if b j = true then j else fbS b g (j + 1)) → b i = false
    by_cases q : b j = true
    · rw [if_pos q]
      exact ⟨Nat.le_refl _, by omega, fun i h1 h2 => by omega⟩
    · rw [if_neg q]
      obtain ⟨h1, h2, h3⟩ := fbS_le b g (j + 1)
      refine ⟨by omega, by omega, fun i i1 i2 => ?_⟩
      by_cases e : i = j
      · rw [e]
        exact Bool.eq_false_iff.mpr q
      · exact h3 i (by omega) i2
theorem f_goodc {z : gS} {nb : Nat} {pt fi se st : Nat → Nat} (h : cx z nb pt fi se st) {i : Nat} (hi : i < nb) : f_T_isGood z (nI i) = some (gq (nI (pt (se i * 2)) - nI (pt (fi i * 2))) (nI (pt (se i * 2 + 1)) - nI (pt (fi i * 2 + 1))), z) := by
  have r0 : f_T_reach z (nI i) 0 = some (nI (pt (se i * 2)) - nI (pt (fi i * 2)), z) := by
    have := f_reach h hi (d := 0) (by decide)
    rw [nI_iI (pt (se i * 2)), nI_iI (pt (fi i * 2)), iI_sub]
    exact this
  have r1 : f_T_reach z (nI i) 1 = some (nI (pt (se i * 2 + 1)) - nI (pt (fi i * 2 + 1)), z) := by
    have := f_reach h hi (d := 1) (by decide)
    rw [nI_iI (pt (se i * 2 + 1)), nI_iI (pt (fi i * 2 + 1)), iI_sub]
    exact this
  unfold f_T_isGood
  rw [r0, bd2_s, r1, bd2_s]
  generalize nI (pt (se i * 2)) - nI (pt (fi i * 2)) = u
  generalize nI (pt (se i * 2 + 1)) - nI (pt (fi i * 2 + 1)) = v
  unfold gq
  by_cases q1 : u = 0
  · rw [if_pos q1, if_pos q1]
  · rw [if_neg q1, if_neg q1]
    by_cases q2 : v = 0
    · rw [if_pos q2, if_pos q2]
    · rw [if_neg q2, if_neg q2]
      by_cases q3 : (if 0 ≤ u then u else 0 - u) = (if 0 ≤ v then v else 0 - v)
      · rw [if_pos q3, if_pos q3]
      · rw [if_neg q3, if_neg q3]
theorem bdB_1 {pt fi se : Nat → Nat} {mk i : Nat} (h : bt5 mk (fi i) = 0) : bdB pt fi se mk i = true := by
  unfold bdB
  rw [h]
  rfl
theorem bdB_2 {pt fi se : Nat → Nat} {mk i : Nat} (h : bt5 mk (se i) = 0) : bdB pt fi se mk i = true := by
  unfold bdB
  rw [h]
  simp
theorem bdB_3 {pt fi se : Nat → Nat} {mk i : Nat} (h1 : bt5 mk (fi i) = 1) (h2 : bt5 mk (se i) = 1) : bdB pt fi se mk i = true ↔ gq (nI (pt (se i * 2)) - nI (pt (fi i * 2))) (nI (pt (se i * 2 + 1)) - nI (pt (fi i * 2 + 1))) = 0 := by
  unfold bdB
  rw [h1, h2]
  show (false || (false || decide _)) = true ↔ _
  rw [Bool.false_or, Bool.false_or, decide_eq_true_iff]
theorem lp_fbc {z : gS} {nb mk : Nat} {pt fi se st : Nat → Nat} (h : cx z nb pt fi se st) (h1 : z.1 1 = nI mk) (hk : mk < 32) : ∀ (g f j : Nat), j + g = nb → g < f → ∃ e, l_T_firstBadBar_2 f z (nI j) = some (e, nI (fbS (bdB pt fi se mk) g j), z) ∧ ((e = 0 ∧ fbS (bdB pt fi se mk) g j < nb) ∨ (e = 1 ∧ fbS (bdB pt fi se mk) g j = nb))
  | 0, f + 1, j, hg, hf => by
    have hnb := h.1
    rw [l_T_firstBadBar_2, h.2.1, if_pos (nI_le (show nb ≤ j by omega) (by omega))]
    exact ⟨1, rfl, Or.inr ⟨rfl, by show j = nb; omega⟩⟩
  | g + 1, f + 1, j, hg, hf => by
    have hnb := h.1
    have hj : j < nb := by omega
    have ck := ck_in (show j < 10 by omega) (by decide)
    obtain ⟨e6, e7, e8, l1, l2, l3, l4, l5⟩ := h.2.2.2 j hj
    have es : fbS (bdB pt fi se mk) (g + 1) j = (if bdB pt fi se mk j = true then j else fbS (bdB pt fi se mk) g (j + 1)) := rfl
    rw [l_T_firstBadBar_2, h.2.1, if_neg (nI_ge hj (by omega)), es]
    simp only [if_neg ck]
    rw [nI_clamp (show j < 2 ^ 31 by omega), e6, f_there h1 hk l1, bd2_s, show mk / 2 ^ fi j % 2 = bt5 mk (fi j) from rfl]
    rcases bt5_01 mk (fi j) with q1 | q1
    · rw [q1, if_pos (show nI 0 = 0 from rfl), if_pos (bdB_1 q1)]
      exact ⟨0, rfl, Or.inl ⟨rfl, hj⟩⟩
    rw [q1, if_neg (show ¬ nI 1 = 0 by decide), e7, f_there h1 hk l2, bd2_s, show mk / 2 ^ se j % 2 = bt5 mk (se j) from rfl]
    rcases bt5_01 mk (se j) with q2 | q2
    · rw [q2, if_pos (show nI 0 = 0 from rfl), if_pos (bdB_2 q2)]
      exact ⟨0, rfl, Or.inl ⟨rfl, hj⟩⟩
    rw [q2, if_neg (show ¬ nI 1 = 0 by decide), f_goodc h hj, bd2_s]
    by_cases q3 : gq (nI (pt (se j * 2)) - nI (pt (fi j * 2))) (nI (pt (se j * 2 + 1)) - nI (pt (fi j * 2 + 1))) = 0
    · rw [if_pos q3, if_pos ((bdB_3 q1 q2).mpr q3)]
      exact ⟨0, rfl, Or.inl ⟨rfl, hj⟩⟩
    · rw [if_neg q3, if_neg (fun e => q3 ((bdB_3 q1 q2).mp e)), nI_1]
      exact lp_fbc h h1 hk g f (j + 1) (by omega) (by omega)
theorem f_goodm {z : gS} {nb mk : Nat} {pt fi se st : Nat → Nat} (h : rx z nb pt fi se st) (ht : b_th (z.2.2.1 1) mk) {i : Nat} (hi : i < nb) : ∃ r, f_M_good z (nI i) = some (r, z) ∧ (r = 0 ↔ bdB pt fi se mk i = true) := by
  obtain ⟨e4, e5, e6, l1, l2, l3, l4, l5⟩ := h.2.2.2 i hi
  have hnb := h.1
  have ck := ck_in (show i < 10 by omega) (by decide)
  have c1 := ck_in l1 (by decide)
  have c2 := ck_in l2 (by decide)
  obtain ⟨a1, a2, a3, a4⟩ := h.2.2.1 (fi i) l1
  obtain ⟨b1, b2, b3, b4⟩ := h.2.2.1 (se i) l2
  unfold f_M_good
  simp only [if_neg ck, let_s]
  simp only [nI_clamp (show i < 2 ^ 31 by omega), e4, e5]
  simp only [if_neg c1, if_neg c2]
  simp only [nI_clamp (show fi i < 2 ^ 31 by omega), nI_clamp (show se i < 2 ^ 31 by omega), a1, a2, b1, b2]
  rw [ht _ l1, ht _ l2, show mk / 2 ^ fi i % 2 = bt5 mk (fi i) from rfl, show mk / 2 ^ se i % 2 = bt5 mk (se i) from rfl]
  rcases bt5_01 mk (fi i) with q1 | q1
  · rw [q1, if_pos (show nI 0 = 0 from rfl)]
    exact ⟨0, rfl, fun _ => bdB_1 q1, fun _ => rfl⟩
  rcases bt5_01 mk (se i) with q2 | q2
  · rw [q1, q2, if_neg (show ¬ nI 1 = 0 by decide), if_pos (show nI 0 = 0 from rfl)]
    exact ⟨0, rfl, fun _ => bdB_2 q2, fun _ => rfl⟩
  rw [q1, q2, if_neg (show ¬ nI 1 = 0 by decide), if_neg (show ¬ nI 1 = 0 by decide)]
  have hq := gq_gr _ b3 _ a3 _ b4 _ a4
  refine ⟨gr (nI (pt (se i * 2)) - nI (pt (fi i * 2))) (nI (pt (se i * 2 + 1)) - nI (pt (fi i * 2 + 1))), ?_, by rw [hq]; exact (bdB_3 q1 q2).symm⟩
  generalize nI (pt (se i * 2)) - nI (pt (fi i * 2)) = u
  generalize nI (pt (se i * 2 + 1)) - nI (pt (fi i * 2 + 1)) = v
  unfold gr
  by_cases p1 : u = 0
  · rw [if_pos p1, if_pos p1]
  · rw [if_neg p1, if_neg p1]
    by_cases p2 : v = 0
    · rw [if_pos p2, if_pos p2]
    · rw [if_neg p2, if_neg p2]
      by_cases p3 : u = v
      · rw [if_pos p3, if_pos p3]
      · rw [if_neg p3, if_neg p3]
        by_cases p4 : u = -v
        · rw [if_pos p4, if_pos p4]
        · rw [if_neg p4, if_neg p4]
theorem lp_fbm {z : gS} {nb mk : Nat} {pt fi se st : Nat → Nat} (h : rx z nb pt fi se st) (ht : b_th (z.2.2.1 1) mk) : ∀ (g f j : Nat), j + g = nb → g < f → ∃ e, l_M_solve_26 f z (nI j) = some (e, nI (fbS (bdB pt fi se mk) g j), z) ∧ ((e = 0 ∧ fbS (bdB pt fi se mk) g j < nb) ∨ (e = 1 ∧ fbS (bdB pt fi se mk) g j = nb))
  | 0, f + 1, j, hg, hf => by
    have hnb := h.1
    rw [l_M_solve_26, h.2.1, if_pos (nI_le (show nb ≤ j by omega) (by omega))]
    exact ⟨1, rfl, Or.inr ⟨rfl, by show j = nb; omega⟩⟩
  | g + 1, f + 1, j, hg, hf => by
    have hnb := h.1
    have hj : j < nb := by omega
    obtain ⟨r, r1, r2⟩ := f_goodm h ht hj
    have es : fbS (bdB pt fi se mk) (g + 1) j = (if bdB pt fi se mk j = true then j else fbS (bdB pt fi se mk) g (j + 1)) := rfl
    rw [l_M_solve_26, h.2.1, if_neg (nI_ge hj (by omega)), es, r1, bd2_s]
    by_cases q : r = 0
    · rw [if_pos q, if_pos (r2.mp q)]
      exact ⟨0, rfl, Or.inl ⟨rfl, hj⟩⟩
    · rw [if_neg q, if_neg (fun e => q (r2.mpr e)), nI_1]
      exact lp_fbm h ht g f (j + 1) (by omega) (by omega)
/-- bars that are not bad join nodes that are there -/
theorem good_th {pt fi se : Nat → Nat} {mk nb : Nat} (h : ∀ i, i < nb → bdB pt fi se mk i = false) : ∀ i, i < nb → bt5 mk (fi i) = 1 ∧ bt5 mk (se i) = 1 := fun i hi => by
  have hb := h i hi
  constructor
  · rcases bt5_01 mk (fi i) with q | q
    · rw [bdB_1 q] at hb; cases hb
    · exact q
  · rcases bt5_01 mk (se i) with q | q
    · rw [bdB_2 q] at hb; cases hb
    · exact q
