/-! The reference's order: the twenty turns -/
def rrun (nbm : Nat → Nat) (mk : Nat) : Nat → Nat → oS → Option oS
  | 0, _, s => some s
  | t + 1, pl, s => if lj nbm (nmk (mk &&& (if pl < s.1 then nbm (s.2.1 pl) else 31)) s.2.2) 5 5 5 0 = 5 then rrun nbm mk t (pl + 1) s else if s.1 < 5 then rrun nbm mk t pl (ap s (lj nbm (nmk (mk &&& (if pl < s.1 then nbm (s.2.1 pl) else 31)) s.2.2) 5 5 5 0)) else none
/-- the same but for what the order writes in the reference -/
def rsame (z y : gS) : Prop := (∀ k, k ≠ 2 → z.1 k = y.1 k) ∧ z.2.1 = y.2.1 ∧ (∀ k, k ≠ 11 → z.2.2.1 k = y.2.2.1 k) ∧ z.2.2.2 = y.2.2.2
theorem rsame_rf (z : gS) : rsame z z := ⟨fun _ _ => rfl, rfl, fun _ _ => rfl, rfl⟩
theorem rsame_tr {a b c : gS} (h1 : rsame a b) (h2 : rsame b c) : rsame a c := ⟨fun k p => (h1.1 k p).trans (h2.1 k p), h1.2.1.trans h2.2.1, fun k p => (h1.2.2.1 k p).trans (h2.2.2.1 k p), h1.2.2.2.trans h2.2.2.2⟩
theorem f_mapp {z : gS} {s : oS} (h : rrel z s) (h5 : s.1 < 5) {n : Nat} (hn : n < 5) : ∃ z', f_M_append z (nI n) = some z' ∧ rrel z' (ap s n) ∧ rsame z' z := by
  obtain ⟨r1, r2, r3, r4, r5⟩ := h
  have ck := ck_in h5 (by decide)
  unfold f_M_append
  rw [r1, if_neg ck, let_s, nI_clamp (show s.1 < 2 ^ 31 by omega), sI_1, r1, nI_1, let_s, let_s]
  have e9 : ap s n = (s.1 + 1, va_up s.2.1 s.1 n, s.2.2 ||| 2 ^ n) := by
    unfold ap
    rw [if_neg (by omega), if_pos h5]
  rw [e9]
  refine ⟨_, rfl, ⟨?_, by show s.1 + 1 ≤ 5; omega, (bit_or _ r3 n hn).2, fun i hi => ?_, fun k hk => ?_⟩, fun k q => ?_, rfl, fun k q => ?_, rfl⟩
  · rw [si_self]
  · have hi' : i < s.1 + 1 := hi
    rw [si_2, sI_self]
    show upd (z.2.2.1 11) s.1 (nI n) i = nI (va_up s.2.1 s.1 n i) ∧ va_up s.2.1 s.1 n i < 5
    by_cases r : i = s.1
    · rw [r, pk_us, va_up_self]; exact ⟨rfl, hn⟩
    · rw [pk_un r, va_up_ne _ _ r]; exact r4 i (by omega)
  · have hg : bt5 (s.2.2 ||| 2 ^ n) k = if k = n then 1 else bt5 s.2.2 k := bit_get _ r3 n hn k hk
    show (bt5 (s.2.2 ||| 2 ^ n) k = 1 ∧ ∃ i, i < s.1 + 1 ∧ va_up s.2.1 s.1 n i = k) ∨ (bt5 (s.2.2 ||| 2 ^ n) k = 0 ∧ ¬ ∃ i, i < s.1 + 1 ∧ va_up s.2.1 s.1 n i = k)
    rw [hg]
    by_cases q : k = n
    · rw [if_pos q]
      exact Or.inl ⟨rfl, s.1, by omega, by rw [va_up_self, q]⟩
    · rw [if_neg q]
      rcases r5 k hk with ⟨q1, i, q2, q3⟩ | ⟨q1, q2⟩
      · exact Or.inl ⟨q1, i, by omega, by rw [va_up_ne _ _ (show i ≠ s.1 by omega)]; exact q3⟩
      · refine Or.inr ⟨q1, fun ⟨i, p1, p2⟩ => ?_⟩
        by_cases e : i = s.1
        · rw [e, va_up_self] at p2
          exact q p2.symm
        · rw [va_up_ne _ _ e] at p2
          exact q2 ⟨i, by omega, p2⟩
  · rw [si_ne _ _ q, sI_1]
  · rw [si_2, sI_ne _ _ q]
theorem rbars_keep {z y : gS} {nb : Nat} {fi se : Nat → Nat} (h : rsame z y) (hz : rbars y nb fi se) : rbars z nb fi se := ⟨hz.1, by rw [h.1 0 (by decide)]; exact hz.2.1, fun i hi => by rw [h.2.2.1 4 (by decide), h.2.2.1 5 (by decide)]; exact hz.2.2 i hi⟩
theorem lp_mo {nb mk : Nat} {fi se : Nat → Nat} (hm : mk < 32) : ∀ (g f t pl : Nat) (z : gS) (s s' : oS), rbars z nb fi se → rrel z s → b_th (z.2.2.1 1) mk → t + g = 20 → g < f → pl ≤ t → rrun (nbS fi se nb) mk g pl s = some s' → ∃ z', l_M_makeOrder_9 f z (nI pl) (nI t) = some z' ∧ rrel z' s' ∧ rsame z' z
  | 0, f + 1, t, pl, z, s, s', hz, h, ht, h1, h2, h3, hp => by
    have : t = 20 := by omega
    subst this
    rw [l_M_makeOrder_9, if_pos (by decide)]
    cases hp
    exact ⟨z, rfl, h, rsame_rf z⟩
  | g + 1, f + 1, t, pl, z, s, s', hz, h, ht, h1, h2, h3, hp => by
    have h5 := h.2.1
    have key : ∀ (x1 : Int32) (m : Nat), ofr fi se nb x1 m → m = (if pl < s.1 then nbS fi se nb (s.2.1 pl) else 31) → ∃ z', (bd2 (f_M_candidate z x1) (fun r5 w4 => if r5 < 0 then (l_M_makeOrder_9 f w4 (nI pl + (1 : Int32)) (nI t + (1 : Int32))) else (bd1 (f_M_append w4 r5) (fun w8 => l_M_makeOrder_9 f w8 (nI pl) (nI t + (1 : Int32)))))) = some z' ∧ rrel z' s' ∧ rsame z' z := by
      intro x1 m ho hme
      rw [f_cand hz h hm ht ho, bd2_s, nI_1, nI_1, hme]
      have hp' : (if lj (nbS fi se nb) (nmk (mk &&& (if pl < s.1 then nbS fi se nb (s.2.1 pl) else 31)) s.2.2) 5 5 5 0 = 5 then rrun (nbS fi se nb) mk g (pl + 1) s else if s.1 < 5 then rrun (nbS fi se nb) mk g pl (ap s (lj (nbS fi se nb) (nmk (mk &&& (if pl < s.1 then nbS fi se nb (s.2.1 pl) else 31)) s.2.2) 5 5 5 0)) else none) = some s' := hp
      have hle := lj_le (nbS fi se nb) (nmk (mk &&& (if pl < s.1 then nbS fi se nb (s.2.1 pl) else 31)) s.2.2) 5 5 5 0 (by decide) (by decide)
      generalize lj (nbS fi se nb) (nmk (mk &&& (if pl < s.1 then nbS fi se nb (s.2.1 pl) else 31)) s.2.2) 5 5 5 0 = n at hp' hle ⊢
      by_cases e : n = 5
      · subst e
        rw [if_pos rfl] at hp'
        rw [ljr5, if_pos (by decide)]
        exact lp_mo hm g f (t + 1) (pl + 1) z s s' hz h ht (by omega) (by omega) (by omega) hp'
      · rw [if_neg e] at hp'
        by_cases q : s.1 < 5
        · rw [if_pos q] at hp'
          have hn : n < 5 := by omega
          rw [ljr_lt hn, if_neg (nI_pos (show n < 2 ^ 31 by omega))]
          obtain ⟨z1, a1, a2, a3⟩ := f_mapp h q hn
          rw [a1, bd1_s]
          obtain ⟨z2, b1, b2, b3⟩ := lp_mo hm g f (t + 1) pl z1 _ s' (rbars_keep a3 hz) a2 (by rw [a3.2.2.1 1 (by decide)]; exact ht) (by omega) (by omega) (by omega) hp'
          exact ⟨z2, b1, b2, rsame_tr b3 a3⟩
        · rw [if_neg q] at hp'; cases hp'
    rw [l_M_makeOrder_9, if_neg (show ¬ (20 : Int32) ≤ nI t from nI_ge (b := 20) (by omega) (by decide)), h.1]
    by_cases q : pl < s.1
    · have ck := ck_in (show pl < 5 by omega) (by decide)
      obtain ⟨e1, e2⟩ := h.2.2.2.1 pl q
      rw [if_neg (nI_ge q (by omega)), if_neg ck, nI_clamp (show pl < 2 ^ 31 by omega), e1]
      exact key _ _ (Or.inr ⟨_, e2, rfl, rfl⟩) (by rw [if_pos q])
    · rw [if_pos (nI_le (show s.1 ≤ pl by omega) (by omega))]
      exact key _ _ (Or.inl ⟨rfl, rfl⟩) (by rw [if_neg q])
