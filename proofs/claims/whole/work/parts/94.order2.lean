/-! The program's order: placing -/
abbrev oS : Type := Nat × (Nat → Nat) × Nat
def ap (s : oS) (n : Nat) : oS := if n = 5 then s else if s.1 < 5 then (s.1 + 1, va_up s.2.1 s.1 n, s.2.2 ||| 2 ^ n) else s
def itn (g : oS → oS) : Nat → oS → oS
  | 0, s => s
  | k + 1, s => itn g k (g s)
def an (nb : Nat → Nat) (s : oS) (n : Nat) : oS := itn (fun t => ap t (lj nb (nmk (nb n) t.2.2) 5 5 5 0)) (pcb (nmk (nb n) s.2.2)) s
def pr1 (nb : Nat → Nat) (mk : Nat) (place : Nat) (s : oS) : oS := if place = s.1 then ap s (lj nb (nmk mk s.2.2) 5 5 5 0) else s
def prun (nb : Nat → Nat) (mk : Nat) : Nat → Nat → oS → Option oS
  | 0, _, s => some s
  | f + 1, place, s => if place < (pr1 nb mk place s).1 then prun nb mk f (place + 1) (an nb (pr1 nb mk place s) ((pr1 nb mk place s).2.1 place)) else none
def orel (z : gS) (s : oS) : Prop := z.1 3 = nI s.1 ∧ s.1 ≤ 5 ∧ z.1 4 = nI s.2.2 ∧ s.2.2 < 32 ∧ ∀ i, i < s.1 → z.2.2.1 12 i = nI (s.2.1 i) ∧ s.2.1 i < 5
/-- the same but for what the numbering's order writes -/
def osame (z y : gS) : Prop := (∀ k, k ≠ 3 → k ≠ 4 → z.1 k = y.1 k) ∧ z.2.1 = y.2.1 ∧ (∀ k, k ≠ 12 → z.2.2.1 k = y.2.2.1 k) ∧ z.2.2.2 = y.2.2.2
theorem osame_rf (z : gS) : osame z z := ⟨fun _ _ _ => rfl, rfl, fun _ _ => rfl, rfl⟩
theorem osame_tr {a b c : gS} (h1 : osame a b) (h2 : osame b c) : osame a c := ⟨fun k p q => (h1.1 k p q).trans (h2.1 k p q), h1.2.1.trans h2.2.1, fun k p => (h1.2.2.1 k p).trans (h2.2.2.1 k p), h1.2.2.2.trans h2.2.2.2⟩
theorem lj_le (nb : Nat → Nat) (am : Nat) : ∀ (g best few n : Nat), best ≤ 5 → n + g ≤ 5 → lj nb am g best few n ≤ 5
  | 0, _, _, _, h, _ => h
  | g + 1, best, few, n, h, h2 => by
    show (if _ then _ else if _ then _ else _) ≤ 5
    by_cases q : bt5 am n = 0
    · rw [if_pos q]; exact lj_le nb am g _ _ _ h (by omega)
    · rw [if_neg q]
      by_cases q2 : few ≤ pcb (nb n)
      · rw [if_pos q2]; exact lj_le nb am g _ _ _ h (by omega)
      · rw [if_neg q2]; exact lj_le nb am g _ _ _ (by omega) (by omega)
theorem f_app {z : gS} {s : oS} (h : orel z s) {n : Nat} (hn : n ≤ 5) : ∃ z', f_N_append z (ljr n) = some z' ∧ orel z' (ap s n) ∧ osame z' z := by
  obtain ⟨h1, h2, h3, h4, h5⟩ := id h
  unfold f_N_append ap
  by_cases e : n = 5
  · subst e
    rw [if_pos (by decide), if_pos rfl]
    exact ⟨z, rfl, h, osame_rf z⟩
  have hn5 : n < 5 := by omega
  rw [ljr_lt hn5, if_neg (nI_pos (by omega)), if_neg e, h1]
  by_cases q : s.1 < 5
  · have ck := ck_in q (by decide)
    obtain ⟨o1, o2⟩ := bit_or s.2.2 h4 n hn5
    rw [if_pos (show nI s.1 < (5 : Int32) from nI_lt (b := 5) q (by decide)), if_neg ck, if_pos q, nI_clamp (show s.1 < 2 ^ 31 by omega)]
    simp only [let_s, sI_1, h1, nI_1]
    have e4 : (s_i (s_I z 12 (upd (z.2.2.1 12) s.1 (nI n))) 3 (nI (s.1 + 1))).1 4 = nI s.2.2 := by rw [si_ne _ _ (by decide), sI_1, h3]
    rw [e4, o1]
    refine ⟨_, rfl, ⟨?_, by show s.1 + 1 ≤ 5; omega, ?_, o2, fun i hi => ?_⟩, fun k q1 q2 => ?_, rfl, fun k q1 => ?_, rfl⟩
    · rw [si_ne _ _ (by decide), si_self]
    · rw [si_self]
    · have hi' : i < s.1 + 1 := hi
      rw [si_2, si_2, sI_self]
      show upd (z.2.2.1 12) s.1 (nI n) i = nI (va_up s.2.1 s.1 n i) ∧ va_up s.2.1 s.1 n i < 5
      by_cases r : i = s.1
      · rw [r, pk_us, va_up_self]; exact ⟨rfl, hn5⟩
      · rw [pk_un r, va_up_ne _ _ r]; exact h5 i (by omega)
    · rw [si_ne _ _ q2, si_ne _ _ q1, sI_1]
    · rw [si_2, si_2, sI_ne _ _ q1]
  · rw [if_neg (show ¬ nI s.1 < (5 : Int32) from nI_nlt (b := 5) (by omega) (by omega)), if_neg q]
    exact ⟨z, rfl, h, osame_rf z⟩
theorem nb_keep {z y : gS} {nb : Nat → Nat} (h : osame z y) (hn : ∀ k, k < 5 → y.2.2.1 13 k = nI (nb k) ∧ nb k < 32) : ∀ k, k < 5 → z.2.2.1 13 k = nI (nb k) ∧ nb k < 32 := fun k hk => by
  rw [h.2.2.1 13 (by decide)]
  exact hn k hk
theorem lp_an {nb : Nat → Nat} {n : Nat} (hn5 : n < 5) : ∀ (g f j : Nat) (z : gS) (s : oS), orel z s → (∀ k, k < 5 → z.2.2.1 13 k = nI (nb k) ∧ nb k < 32) → g < f → j + g ≤ 5 → ∃ z', l_N_appendNeighboursOf_19 f z (nI n) (nI (j + g)) (nI j) = some z' ∧ orel z' (itn (fun t => ap t (lj nb (nmk (nb n) t.2.2) 5 5 5 0)) g s) ∧ osame z' z
  | 0, f + 1, j, z, s, h, hn, hf, hj => by
    rw [l_N_appendNeighboursOf_19, if_pos (show nI (j + 0) ≤ nI j from nI_le (Nat.le_refl _) (by omega))]
    exact ⟨z, rfl, h, osame_rf z⟩
  | g + 1, f + 1, j, z, s, h, hn, hf, hj => by
    have ck := ck_in hn5 (by decide)
    obtain ⟨e1, e2⟩ := hn n hn5
    obtain ⟨o1, o2⟩ := nmk_ok (nb n) e2 s.2.2 h.2.2.2.1
    rw [l_N_appendNeighboursOf_19, if_neg (nI_ge (show j < j + (g + 1) by omega) (by omega)), if_neg ck, nI_clamp (show n < 2 ^ 31 by omega), e1, h.2.2.1, o1, f_lj hn o2, bd2_s]
    obtain ⟨z1, a1, a2, a3⟩ := f_app h (lj_le nb (nmk (nb n) s.2.2) 5 5 5 0 (by decide) (by decide))
    rw [a1, bd1_s, nI_1]
    obtain ⟨z2, b1, b2, b3⟩ := lp_an hn5 g f (j + 1) z1 _ a2 (nb_keep a3 hn) (by omega) (by omega)
    rw [show j + 1 + g = j + (g + 1) by omega] at b1
    exact ⟨z2, b1, b2, osame_tr b3 a3⟩
theorem f_an {z : gS} {s : oS} {nb : Nat → Nat} (h : orel z s) (hn : ∀ k, k < 5 → z.2.2.1 13 k = nI (nb k) ∧ nb k < 32) {n : Nat} (hn5 : n < 5) : ∃ z', f_N_appendNeighboursOf z (nI n) = some z' ∧ orel z' (an nb s n) ∧ osame z' z := by
  have ck := ck_in hn5 (by decide)
  obtain ⟨e1, e2⟩ := hn n hn5
  obtain ⟨o1, o2⟩ := nmk_ok (nb n) e2 s.2.2 h.2.2.2.1
  unfold f_N_appendNeighboursOf
  rw [if_neg ck, nI_clamp (show n < 2 ^ 31 by omega), e1, h.2.2.1, o1, f_bits z o2, bd2_s]
  obtain ⟨z1, a1, a2, a3⟩ := lp_an (nb := nb) hn5 (pcb (nmk (nb n) s.2.2)) 200 0 z s h hn (by have := pcb_le (nmk (nb n) s.2.2); omega) (by have := pcb_le (nmk (nb n) s.2.2); omega)
  rw [Nat.zero_add] at a1
  have a1' : l_N_appendNeighboursOf_19 200 z (nI n) (nI (pcb (nmk (nb n) s.2.2))) 0 = some z1 := a1
  rw [a1', bd1_s]
  exact ⟨z1, rfl, a2, a3⟩
theorem lp_place {nb : Nat → Nat} {mk : Nat} (hm : mk < 32) : ∀ (g f j : Nat) (z : gS) (s s' : oS), orel z s → z.1 1 = nI mk → (∀ k, k < 5 → z.2.2.1 13 k = nI (nb k) ∧ nb k < 32) → g < f → j + g ≤ 5 → prun nb mk g j s = some s' → ∃ z', l_N_placeNodes_1_17 f z (nI (j + g)) (nI j) = some z' ∧ orel z' s' ∧ osame z' z
  | 0, f + 1, j, z, s, s', h, hz, hn, hf, hj, hp => by
    rw [l_N_placeNodes_1_17, if_pos (show nI (j + 0) ≤ nI j from nI_le (Nat.le_refl _) (by omega))]
    cases hp
    exact ⟨z, rfl, h, osame_rf z⟩
  | g + 1, f + 1, j, z, s, s', h, hz, hn, hf, hj, hp => by
    have hj5 : j < 5 := by omega
    have ck := ck_in hj5 (by decide)
    have hp' : (if j < (pr1 nb mk j s).1 then prun nb mk g (j + 1) (an nb (pr1 nb mk j s) ((pr1 nb mk j s).2.1 j)) else none) = some s' := hp
    have hlt : j < (pr1 nb mk j s).1 := by
      by_cases q : j < (pr1 nb mk j s).1
      · exact q
      · rw [if_neg q] at hp'; cases hp'
    rw [if_pos hlt] at hp'
    rw [l_N_placeNodes_1_17, if_neg (nI_ge (show j < j + (g + 1) by omega) (by omega)), h.1]
    by_cases q : j = s.1
    · have e9 : pr1 nb mk j s = ap s (lj nb (nmk mk s.2.2) 5 5 5 0) := if_pos q
      obtain ⟨o1, o2⟩ := nmk_ok mk hm s.2.2 h.2.2.2.1
      rw [if_pos (by rw [q]), hz, h.2.2.1, o1, f_lj hn o2, bd2_s]
      obtain ⟨z1, a1, a2, a3⟩ := f_app h (lj_le nb (nmk mk s.2.2) 5 5 5 0 (by decide) (by decide))
      rw [← e9] at a2
      obtain ⟨r1, r2⟩ := a2.2.2.2.2 j hlt
      rw [a1, bd1_s, if_neg ck, nI_clamp (show j < 2 ^ 31 by omega), r1]
      obtain ⟨z2, b1, b2, b3⟩ := f_an a2 (nb_keep a3 hn) r2
      rw [b1, bd1_s, nI_1]
      have hs2 := osame_tr b3 a3
      obtain ⟨z3, c1, c2, c3⟩ := lp_place hm g f (j + 1) z2 _ s' b2 (by rw [hs2.1 1 (by decide) (by decide)]; exact hz) (nb_keep hs2 hn) (by omega) (by omega) hp'
      rw [show j + 1 + g = j + (g + 1) by omega] at c1
      exact ⟨z3, c1, c2, osame_tr c3 hs2⟩
    · have e9 : pr1 nb mk j s = s := if_neg q
      rw [e9] at hlt hp'
      obtain ⟨r1, r2⟩ := h.2.2.2.2 j hlt
      have q' : ¬ nI j = nI s.1 := fun e => q ((nI_eq (by omega) (by have := h.2.1; omega)).mp e)
      rw [if_neg q', if_neg ck, nI_clamp (show j < 2 ^ 31 by omega), r1]
      obtain ⟨z2, b1, b2, b3⟩ := f_an h hn r2
      rw [b1, bd1_s, nI_1]
      obtain ⟨z3, c1, c2, c3⟩ := lp_place hm g f (j + 1) z2 _ s' b2 (by rw [b3.1 1 (by decide) (by decide)]; exact hz) (nb_keep b3 hn) (by omega) (by omega) hp'
      rw [show j + 1 + g = j + (g + 1) by omega] at c1
      exact ⟨z3, c1, c2, osame_tr c3 b3⟩
