/-! The program's order: who is joined with whom -/
def nbS (fi se : Nat → Nat) : Nat → Nat → Nat
  | 0, _ => 0
  | i + 1, n => if n = fi i then nbS fi se i n ||| 2 ^ (se i) else if n = se i then nbS fi se i n ||| 2 ^ (fi i) else nbS fi se i n
/-- the same but for int row k0 -/
def nsame (k0 : Nat) (z y : gS) : Prop := z.1 = y.1 ∧ z.2.1 = y.2.1 ∧ (∀ k, k ≠ k0 → z.2.2.1 k = y.2.2.1 k) ∧ z.2.2.2 = y.2.2.2
theorem nsame_rf (k0 : Nat) (z : gS) : nsame k0 z z := ⟨rfl, rfl, fun _ _ => rfl, rfl⟩
theorem nsame_tr {k0 : Nat} {a b c : gS} (h1 : nsame k0 a b) (h2 : nsame k0 b c) : nsame k0 a c := ⟨h1.1.trans h2.1, h1.2.1.trans h2.2.1, fun k p => (h1.2.2.1 k p).trans (h2.2.2.1 k p), h1.2.2.2.trans h2.2.2.2⟩
theorem nsame_I (k0 : Nat) (z : gS) (h : Nat → Int32) : nsame k0 (s_I z k0 h) z := ⟨rfl, rfl, fun _ q => sI_ne _ _ q, rfl⟩
theorem lp_fillI (x : Int32) : ∀ (g f j : Nat) (z : gS), j + g = 5 → g < f → ∃ z', l_J_fillI_13_5 f z x (nI j) 5 = some z' ∧ nsame 13 z' z ∧ ∀ i, z'.2.2.1 13 i = if j ≤ i ∧ i < 5 then x else z.2.2.1 13 i
  | 0, f + 1, j, z, h1, h2 => by
    have : j = 5 := by omega
    subst this
    rw [l_J_fillI_13_5, if_pos (by decide)]
    refine ⟨z, rfl, nsame_rf 13 z, fun i => ?_⟩
    rw [if_neg (by omega)]
  | g + 1, f + 1, j, z, h1, h2 => by
    have hj : j < 5 := by omega
    have ck := ck_in hj (by decide)
    rw [l_J_fillI_13_5, if_neg (show ¬ (5 : Int32) ≤ nI j from nI_ge (b := 5) hj (by decide)), if_neg ck, let_s, nI_clamp (show j < 2 ^ 31 by omega), nI_1]
    obtain ⟨z', a1, a2, a3⟩ := lp_fillI x g f (j + 1) (s_I z 13 (upd (z.2.2.1 13) j x)) (by omega) (by omega)
    refine ⟨z', a1, nsame_tr a2 (nsame_I 13 z _), fun i => ?_⟩
    rw [a3 i, sI_self]
    by_cases q : i = j
    · rw [q, pk_us, if_neg (by omega), if_pos (by omega)]
    · rw [pk_un q]
      by_cases q2 : j + 1 ≤ i ∧ i < 5
      · rw [if_pos q2, if_pos (by omega)]
      · rw [if_neg q2, if_neg (by omega)]
theorem bit_or2 : ∀ m, m < 32 → ∀ n, n < 5 → nI m ||| ((1 : Int32) <<< (nI n &&& 31)) = nI (m ||| 2 ^ n) ∧ m ||| 2 ^ n < 32 := bit_or
theorem lp_fn {nb : Nat} {fi se : Nat → Nat} (hnb : nb ≤ 10) : ∀ (g f j : Nat) (z : gS), j + g = nb → g < f → z.1 2 = nI nb → (∀ i, i < nb → z.2.2.1 6 i = nI (fi i) ∧ z.2.2.1 7 i = nI (se i) ∧ fi i < 5 ∧ se i < 5 ∧ fi i ≠ se i) → (∀ n, n < 5 → z.2.2.1 13 n = nI (nbS fi se j n) ∧ nbS fi se j n < 32) → ∃ z', l_N_findNeighbours_1_10 f z (nI j) = some z' ∧ nsame 13 z' z ∧ ∀ n, n < 5 → z'.2.2.1 13 n = nI (nbS fi se nb n) ∧ nbS fi se nb n < 32
  | 0, f + 1, j, z, h1, h2, h3, h4, h5 => by
    have : j = nb := by omega
    subst this
    rw [l_N_findNeighbours_1_10, h3, if_pos (nI_le (Nat.le_refl _) (by omega))]
    exact ⟨z, rfl, nsame_rf 13 z, h5⟩
  | g + 1, f + 1, j, z, h1, h2, h3, h4, h5 => by
    have hj : j < nb := by omega
    have ck := ck_in (show j < 10 by omega) (by decide)
    obtain ⟨e1, e2, e3, e4, e5⟩ := h4 j hj
    have cka := ck_in e3 (by decide)
    have ckb := ck_in e4 (by decide)
    obtain ⟨a1, a2⟩ := h5 (fi j) e3
    obtain ⟨b1, b2⟩ := h5 (se j) e4
    obtain ⟨o1, o2⟩ := bit_or2 _ a2 (se j) e4
    obtain ⟨r1, r2⟩ := bit_or2 _ b2 (fi j) e3
    rw [l_N_findNeighbours_1_10, h3, if_neg (nI_ge hj (by omega)), if_neg ck, let_s, if_neg ck, let_s, nI_clamp (show j < 2 ^ 31 by omega), e1, e2, if_neg cka, if_neg cka, let_s, if_neg ckb, if_neg ckb, let_s, nI_clamp (show fi j < 2 ^ 31 by omega), nI_clamp (show se j < 2 ^ 31 by omega), a1, o1, sI_self, pk_un (Ne.symm e5), b1, r1, nI_1]
    generalize hz3 : s_I (s_I z 13 (upd (z.2.2.1 13) (fi j) (nI (nbS fi se j (fi j) ||| 2 ^ se j)))) 13 (upd (upd (z.2.2.1 13) (fi j) (nI (nbS fi se j (fi j) ||| 2 ^ se j))) (se j) (nI (nbS fi se j (se j) ||| 2 ^ fi j))) = z3
    have hs : nsame 13 z3 z := by rw [← hz3]; exact nsame_tr (nsame_I 13 _ _) (nsame_I 13 z _)
    obtain ⟨z', c1, c2, c3⟩ := lp_fn hnb g f (j + 1) z3 (by omega) (by omega) (by rw [hs.1]; exact h3) (fun i hi => by rw [hs.2.2.1 6 (by decide), hs.2.2.1 7 (by decide)]; exact h4 i hi) (fun n hn => by
      have e9 : z3.2.2.1 13 n = upd (upd (z.2.2.1 13) (fi j) (nI (nbS fi se j (fi j) ||| 2 ^ se j))) (se j) (nI (nbS fi se j (se j) ||| 2 ^ fi j)) n := by rw [← hz3, sI_self]
      rw [e9]
      show _ = nI (if n = fi j then nbS fi se j n ||| 2 ^ (se j) else if n = se j then nbS fi se j n ||| 2 ^ (fi j) else nbS fi se j n) ∧ (if n = fi j then nbS fi se j n ||| 2 ^ (se j) else if n = se j then nbS fi se j n ||| 2 ^ (fi j) else nbS fi se j n) < 32
      by_cases q1 : n = fi j
      · rw [if_pos q1, q1, pk_un e5, pk_us]; exact ⟨rfl, o2⟩
      · rw [if_neg q1]
        by_cases q2 : n = se j
        · rw [if_pos q2, q2, pk_us]; exact ⟨rfl, r2⟩
        · rw [if_neg q2, pk_un q2, pk_un q1]; exact h5 n hn)
    exact ⟨z', c1, nsame_tr c2 hs, c3⟩
theorem f_fn {z : gS} {nb : Nat} {fi se : Nat → Nat} (hnb : nb ≤ 10) (h3 : z.1 2 = nI nb) (h4 : ∀ i, i < nb → z.2.2.1 6 i = nI (fi i) ∧ z.2.2.1 7 i = nI (se i) ∧ fi i < 5 ∧ se i < 5 ∧ fi i ≠ se i) : ∃ z', f_N_findNeighbours_1 z = some z' ∧ nsame 13 z' z ∧ ∀ n, n < 5 → z'.2.2.1 13 n = nI (nbS fi se nb n) ∧ nbS fi se nb n < 32 := by
  unfold f_N_findNeighbours_1 f_J_fillI_13
  obtain ⟨z1, a1, a2, a3⟩ := lp_fillI 0 5 200 0 z rfl (by decide)
  have a1' : l_J_fillI_13_5 200 z 0 0 5 = some z1 := a1
  rw [a1', bd1_s, bd1_s]
  obtain ⟨z2, b1, b2, b3⟩ := lp_fn hnb nb 200 0 z1 (by omega) (by omega) (by rw [a2.1]; exact h3) (fun i hi => by rw [a2.2.2.1 6 (by decide), a2.2.2.1 7 (by decide)]; exact h4 i hi) (fun n hn => by
    rw [a3 n, if_pos (by omega)]
    exact ⟨rfl, by show 0 < 32; decide⟩)
  have b1' : l_N_findNeighbours_1_10 200 z1 0 = some z2 := b1
  rw [b1', bd1_s]
  exact ⟨z2, rfl, nsame_tr b2 a2, b3⟩
