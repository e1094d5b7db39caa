/-! Whatever the bars are, the reference's order is made -/
theorem lj_bit {nbm : Nat → Nat} {am : Nat} : ∀ (g best few n : Nat), n + g ≤ 5 → lj nbm am g best few n = best ∨ (lj nbm am g best few n < 5 ∧ bt5 am (lj nbm am g best few n) = 1)
  | 0, _, _, _, _ => Or.inl rfl
  | g + 1, best, few, n, h1 => by
    have e : lj nbm am (g + 1) best few n = (if bt5 am n = 0 then lj nbm am g best few (n + 1) else if few ≤ pcb (nbm n) then lj nbm am g best few (n + 1) else lj nbm am g n (pcb (nbm n)) (n + 1)) := rfl
    rw [e]
    by_cases q : bt5 am n = 0
    · rw [if_pos q]; exact lj_bit g best few (n + 1) (by omega)
    · rw [if_neg q]
      by_cases q2 : few ≤ pcb (nbm n)
      · rw [if_pos q2]; exact lj_bit g best few (n + 1) (by omega)
      · rw [if_neg q2]
        rcases lj_bit (nbm := nbm) (am := am) g n (pcb (nbm n)) (n + 1) (by omega) with h | h
        · rw [h]
          refine Or.inr ⟨by omega, ?_⟩
          rcases bt5_01 am n with r | r
          · exact absurd r q
          · exact r
        · exact Or.inr h
theorem lj_some {nbm : Nat → Nat} {am : Nat} (hp : ∀ k, k < 5 → pcb (nbm k) < 5) : ∀ (g best few n : Nat), n + g = 5 → (best < 5 ∨ few = 5) → (∃ k, n ≤ k ∧ k < 5 ∧ bt5 am k = 1) → lj nbm am g best few n < 5
  | 0, _, _, n, h1, _, ⟨k, h2, h3, _⟩ => absurd h3 (by omega)
  | g + 1, best, few, n, h1, h2, ⟨k, k1, k2, k3⟩ => by
    have e : lj nbm am (g + 1) best few n = (if bt5 am n = 0 then lj nbm am g best few (n + 1) else if few ≤ pcb (nbm n) then lj nbm am g best few (n + 1) else lj nbm am g n (pcb (nbm n)) (n + 1)) := rfl
    rw [e]
    by_cases q : bt5 am n = 0
    · rw [if_pos q]
      refine lj_some hp g best few (n + 1) (by omega) h2 ⟨k, ?_, k2, k3⟩
      have : k ≠ n := fun e => by rw [e, q] at k3; cases k3
      omega
    · rw [if_neg q]
      have low : ∀ b f, b < 5 → lj nbm am g b f (n + 1) < 5 := fun b f hb => by
        rcases lj_bit (nbm := nbm) (am := am) g b f (n + 1) (by omega) with h | h
        · rw [h]; exact hb
        · exact h.1
      by_cases q2 : few ≤ pcb (nbm n)
      · rw [if_pos q2]
        have := hp n (by omega)
        exact low _ _ (by omega)
      · rw [if_neg q2]
        exact low _ _ (by omega)
def rinv (mk : Nat) (s : oS) : Prop := s.2.2 < 32 ∧ s.1 = pcb s.2.2 ∧ nmk s.2.2 mk = 0
theorem bt_upc : ∀ t, t < 32 → ∀ n, n < 5 → bt5 t n = 0 → pcb (t ||| 2 ^ n) = pcb t + 1 := by decide +kernel
theorem bt_inm : ∀ mk, mk < 32 → ∀ t, t < 32 → ∀ n, n < 5 → bt5 mk n = 1 → nmk t mk = 0 → nmk (t ||| 2 ^ n) mk = 0 := by decide +kernel
theorem rr_some {nbm : Nat → Nat} {mk : Nat} (hn : ∀ n, nbm n < 32) (hk : mk < 32) : ∀ (t pl : Nat) (s : oS), rinv mk s → ∃ s', rrun nbm mk t pl s = some s' ∧ rinv mk s' ∧ s.1 ≤ s'.1
  | 0, _, s, h => ⟨s, rfl, h, Nat.le_refl _⟩
  | t + 1, pl, s, h => by
    have hm := rr_m hn s pl
    rw [rrun]
    generalize (if pl < s.1 then nbm (s.2.1 pl) else 31) = m at hm ⊢
    obtain ⟨a1, a2⟩ := bt_and mk hk m hm
    have hb := lj_bit (nbm := nbm) (am := nmk (mk &&& m) s.2.2) 5 5 5 0 (by decide)
    generalize lj nbm (nmk (mk &&& m) s.2.2) 5 5 5 0 = n at hb ⊢
    by_cases e : n = 5
    · rw [if_pos e]
      exact rr_some hn hk t (pl + 1) s h
    · rw [if_neg e]
      obtain ⟨h1, h2, h3⟩ := h
      rcases hb with hb | ⟨n5, hb⟩
      · exact absurd hb e
      have hb2 := bt_nmk (mk &&& m) a1 s.2.2 h1 n n5
      rw [a2 n n5, hb] at hb2
      have q1 : bt5 s.2.2 n = 0 := by
        rcases bt5_01 s.2.2 n with r | r
        · exact r
        · rw [if_pos r] at hb2; cases hb2
      have q2 : bt5 mk n = 1 := by
        rw [if_neg (by rw [q1]; decide)] at hb2
        by_cases r : bt5 m n = 1
        · rw [if_pos r] at hb2; exact hb2.symm
        · rw [if_neg r] at hb2; cases hb2
      have u1 := bt_upc s.2.2 h1 n n5 q1
      have u2 := bt_inm mk hk s.2.2 h1 n n5 q2 h3
      have u3 := (bit_or s.2.2 h1 n n5).2
      have u4 := pcb_le (s.2.2 ||| 2 ^ n)
      have lt : s.1 < 5 := by omega
      rw [if_pos lt]
      have ea : ap s n = (s.1 + 1, va_up s.2.1 s.1 n, s.2.2 ||| 2 ^ n) := by
        unfold ap
        rw [if_neg e, if_pos lt]
      obtain ⟨s', b1, b2, b3⟩ := rr_some hn hk t pl (ap s n) (by rw [ea]; exact ⟨u3, by show s.1 + 1 = pcb (s.2.2 ||| 2 ^ n); omega, u2⟩)
      rw [ea] at b3
      exact ⟨s', b1, b2, by have : s.1 + 1 ≤ s'.1 := b3; omega⟩
theorem mk_bit : ∀ mk, mk < 32 → mk ≠ 0 → ∃ k, k < 5 ∧ bt5 mk k = 1 := by
  intro mk hk h0
  by_cases c0 : bt5 mk 0 = 1
  · exact ⟨0, by decide, c0⟩
  by_cases c1 : bt5 mk 1 = 1
  · exact ⟨1, by decide, c1⟩
  by_cases c2 : bt5 mk 2 = 1
  · exact ⟨2, by decide, c2⟩
  by_cases c3 : bt5 mk 3 = 1
  · exact ⟨3, by decide, c3⟩
  by_cases c4 : bt5 mk 4 = 1
  · exact ⟨4, by decide, c4⟩
  exfalso
  unfold bt5 at c0 c1 c2 c3 c4
  simp at c0 c1 c2 c3 c4
  omega
theorem mk_31 : ∀ mk, mk < 32 → nmk (mk &&& 31) 0 = mk := by decide +kernel
theorem nmk_00 : ∀ t, t < 32 → nmk t 0 = 0 → t = 0 := by decide +kernel
/-- the reference's order is made, whatever the bars are; it is empty only without nodes -/
theorem rr_all {nbm : Nat → Nat} {mk : Nat} (hn : ∀ n, nbm n < 32) (hp : ∀ k, k < 5 → pcb (nbm k) < 5) (hk : mk < 32) : ∃ s, rrun nbm mk 20 0 o0 = some s ∧ rinv mk s ∧ (s.1 = 0 ↔ mk = 0) := by
  have h0 : rinv mk o0 := ⟨by decide, by decide, Nat.zero_sub _⟩
  by_cases q : mk = 0
  · obtain ⟨s, a1, a2, a3⟩ := rr_some hn hk 20 0 o0 h0
    refine ⟨s, a1, a2, fun _ => q, fun _ => ?_⟩
    have e : s.2.2 = 0 := nmk_00 _ a2.1 (by have h := a2.2.2; rw [q] at h; exact h)
    rw [a2.2.1, e]
    decide
  · have hl : lj nbm (nmk (mk &&& 31) 0) 5 5 5 0 < 5 := by
      obtain ⟨k, k1, k2⟩ := mk_bit mk hk q
      rw [mk_31 mk hk]
      exact lj_some hp 5 5 5 0 rfl (Or.inr rfl) ⟨k, Nat.zero_le _, k1, k2⟩
    obtain ⟨s, a1, a2, a3⟩ := rr_some hn hk 20 0 o0 h0
    refine ⟨s, a1, a2, fun e => ?_, fun e => absurd e q⟩
    exfalso
    have hb := lj_bit (nbm := nbm) (am := nmk (mk &&& 31) 0) 5 5 5 0 (by decide)
    have b1 : rrun nbm mk (19 + 1) 0 o0 = (if lj nbm (nmk (mk &&& 31) 0) 5 5 5 0 = 5 then rrun nbm mk 19 (0 + 1) o0 else rrun nbm mk 19 0 (ap o0 (lj nbm (nmk (mk &&& 31) 0) 5 5 5 0))) := by
      rw [rrun, if_neg (show ¬ 0 < o0.1 by decide), if_pos (show o0.1 < 5 by decide), show o0.2.2 = 0 from rfl]
    rw [if_neg (by omega)] at b1
    rw [mk_31 mk hk] at b1 hb hl
    have ea : ap o0 (lj nbm mk 5 5 5 0) = (1, va_up (fun _ => 0) 0 (lj nbm mk 5 5 5 0), 0 ||| 2 ^ (lj nbm mk 5 5 5 0)) := by
      unfold ap
      rw [if_neg (by omega)]
      rfl
    have hbit : bt5 mk (lj nbm mk 5 5 5 0) = 1 := by
      rcases hb with hb | hb
      · omega
      · exact hb.2
    obtain ⟨s2, c1, c2, c3⟩ := rr_some hn hk 19 0 (ap o0 (lj nbm mk 5 5 5 0)) (by
      rw [ea]
      refine ⟨(bit_or 0 (by decide) _ hl).2, ?_, bt_inm mk hk 0 (by decide) _ hl hbit (Nat.zero_sub _)⟩
      show 1 = pcb (0 ||| 2 ^ (lj nbm mk 5 5 5 0))
      rw [bt_upc 0 (by decide) _ hl (by unfold bt5; simp)]
      decide)
    rw [show (20 : Nat) = 19 + 1 from rfl, b1, c1] at a1
    cases a1
    rw [ea] at c3
    have : 1 ≤ s.1 := c3
    omega
