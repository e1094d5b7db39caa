/-! The reference's order: neighbours, inOrder, candidate -/
def sbt (x : Nat) : Nat → Nat → Nat
  | 0, _ => 0
  | g + 1, j => bt5 x j + sbt x g (j + 1)
theorem sbt_5 (x : Nat) : sbt x 5 0 = pcb x := by
  show x / 2 ^ 0 % 2 + (x / 2 ^ 1 % 2 + (x / 2 ^ 2 % 2 + (x / 2 ^ 3 % 2 + (x / 2 ^ 4 % 2 + 0)))) = _
  unfold pcb
  simp
  omega
theorem bt5_01 (x n : Nat) : bt5 x n = 0 ∨ bt5 x n = 1 := by
  unfold bt5
  omega
theorem lp_nbs {z : gS} {nb : Nat} {fi se : Nat → Nat} (hz : rbars z nb fi se) {a : Nat} (ha : a < 5) : ∀ (g f j k : Nat), j + g = 5 → g < f → k ≤ j → l_M_neighbours_4 f z (nI a) (nI k) (nI j) = some (nI (k + sbt (nbS fi se nb a) g j), z)
  | 0, f + 1, j, k, h1, h2, h3 => by
    have : j = 5 := by omega
    subst this
    rw [l_M_neighbours_4, if_pos (by decide)]
    rfl
  | g + 1, f + 1, j, k, h1, h2, h3 => by
    have hj : j < 5 := by omega
    rw [l_M_neighbours_4, if_neg (show ¬ (5 : Int32) ≤ nI j from nI_ge (b := 5) hj (by decide)), f_joined hz ha hj, bd2_s, nI_1, nI_1]
    show _ = some (nI (k + (bt5 (nbS fi se nb a) j + sbt (nbS fi se nb a) g (j + 1))), z)
    rcases bt5_01 (nbS fi se nb a) j with e | e
    · rw [e, if_pos (show nI 0 = 0 from rfl), Nat.zero_add]
      exact lp_nbs hz ha g f (j + 1) k (by omega) (by omega) (by omega)
    · rw [e, if_neg (show ¬ nI 1 = 0 by decide), ← Nat.add_assoc]
      exact lp_nbs hz ha g f (j + 1) (k + 1) (by omega) (by omega) (by omega)
theorem f_nbs {z : gS} {nb : Nat} {fi se : Nat → Nat} (hz : rbars z nb fi se) {a : Nat} (ha : a < 5) : f_M_neighbours z (nI a) = some (nI (pcb (nbS fi se nb a)), z) := by
  unfold f_M_neighbours
  have h := lp_nbs hz ha 5 200 0 0 rfl (by decide) (by decide)
  have h' : l_M_neighbours_4 200 z (nI a) 0 0 = some (nI (0 + sbt (nbS fi se nb a) 5 0), z) := h
  rw [h', bd2_s, Nat.zero_add, sbt_5]
def rrel (z : gS) (s : oS) : Prop := z.1 2 = nI s.1 ∧ s.1 ≤ 5 ∧ s.2.2 < 32 ∧ (∀ i, i < s.1 → z.2.2.1 11 i = nI (s.2.1 i) ∧ s.2.1 i < 5) ∧ ∀ n, n < 5 → (bt5 s.2.2 n = 1 ∧ ∃ i, i < s.1 ∧ s.2.1 i = n) ∨ (bt5 s.2.2 n = 0 ∧ ¬ ∃ i, i < s.1 ∧ s.2.1 i = n)
theorem lp_inO {z : gS} {s : oS} (h : rrel z s) {n : Nat} (hn : n < 5) : ∀ (g f j : Nat), j + g = s.1 → g < f → ∃ e, l_M_inOrder_2 f z (nI n) (nI j) = some (e, z) ∧ ((e = 0 ∧ ∃ i, j ≤ i ∧ i < s.1 ∧ s.2.1 i = n) ∨ (e = 1 ∧ ¬ ∃ i, j ≤ i ∧ i < s.1 ∧ s.2.1 i = n))
  | 0, f + 1, j, h1, h2 => by
    have := h.2.1
    rw [l_M_inOrder_2, h.1, if_pos (nI_le (show s.1 ≤ j by omega) (by omega))]
    exact ⟨1, rfl, Or.inr ⟨rfl, fun ⟨i, q1, q2, _⟩ => by omega⟩⟩
  | g + 1, f + 1, j, h1, h2 => by
    have h5 := h.2.1
    have hj : j < s.1 := by omega
    have ck := ck_in (show j < 5 by omega) (by decide)
    obtain ⟨e1, e2⟩ := h.2.2.2.1 j hj
    obtain ⟨e, i1, i2⟩ := lp_inO h hn g f (j + 1) (by omega) (by omega)
    rw [l_M_inOrder_2, h.1, if_neg (nI_ge hj (by omega)), if_neg ck, nI_clamp (show j < 2 ^ 31 by omega), e1, nI_1, i1]
    by_cases q : s.2.1 j = n
    · rw [if_pos (by rw [q])]
      exact ⟨0, rfl, Or.inl ⟨rfl, j, Nat.le_refl j, hj, q⟩⟩
    · rw [if_neg (fun e => q ((nI_iff e2 hn).mp e))]
      refine ⟨e, rfl, ?_⟩
      rcases i2 with ⟨r1, i, r2, r3, r4⟩ | ⟨r1, r2⟩
      · exact Or.inl ⟨r1, i, by omega, r3, r4⟩
      · refine Or.inr ⟨r1, fun ⟨i, q1, q2, q3⟩ => ?_⟩
        by_cases ei : i = j
        · exact q (ei ▸ q3)
        · exact r2 ⟨i, by omega, q2, q3⟩
theorem f_inO {z : gS} {s : oS} (h : rrel z s) {n : Nat} (hn : n < 5) : f_M_inOrder z (nI n) = some (nI (bt5 s.2.2 n), z) := by
  unfold f_M_inOrder
  obtain ⟨e, i1, i2⟩ := lp_inO h hn s.1 200 0 (by omega) (by have := h.2.1; omega)
  have i1' : l_M_inOrder_2 200 z (nI n) 0 = some (e, z) := i1
  rw [i1', bd2_s]
  have hb := h.2.2.2.2 n hn
  rcases i2 with ⟨rfl, i, -, q2, q3⟩ | ⟨rfl, q⟩
  · rw [if_pos rfl]
    rcases hb with ⟨r1, r2⟩ | ⟨r1, r2⟩
    · rw [r1]; rfl
    · exact absurd ⟨i, q2, q3⟩ r2
  · rw [if_neg (by decide)]
    rcases hb with ⟨r1, i, r2, r3⟩ | ⟨r1, r2⟩
    · exact absurd ⟨i, Nat.zero_le i, r2, r3⟩ q
    · rw [r1]; rfl
theorem bt_nmk : ∀ x, x < 32 → ∀ t, t < 32 → ∀ n, n < 5 → bt5 (nmk x t) n = if bt5 t n = 1 then 0 else bt5 x n := by decide +kernel
theorem bt_and : ∀ x, x < 32 → ∀ t, t < 32 → x &&& t < 32 ∧ ∀ n, n < 5 → bt5 (x &&& t) n = if bt5 t n = 1 then bt5 x n else 0 := by decide +kernel
theorem pcb_self : ∀ x, x < 32 → ∀ n, n < 5 → bt5 x n = 0 → pcb x < 5 := by decide +kernel
