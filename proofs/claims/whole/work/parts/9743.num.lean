/-! Both turn the order round; both number the unknowns -/
theorem lp_turn {n : Nat} {a : Nat → Nat} (h1 : 1 ≤ n) (h5 : n ≤ 5) : ∀ (g f i : Nat) (z : gS), i + g = n / 2 → g < f → (∀ k, k < n → z.2.2.1 12 k = nI (if k < i ∨ n - 1 - i < k then a (n - 1 - k) else a k)) → ∃ z', l_N_turnRound_9 f z (nI i) (nI (n - 1 - i)) = some z' ∧ fr [] [] [12] [] z' z ∧ ∀ k, k < n → z'.2.2.1 12 k = nI (a (n - 1 - k))
  | 0, f + 1, i, z, hg, hf, hz => by
    rw [l_N_turnRound_9, if_pos (nI_le (show n - 1 - i ≤ i by omega) (by omega))]
    refine ⟨z, rfl, fr_rf _ _ _ _ z, fun k hk => ?_⟩
    rw [hz k hk]
    by_cases q : k < i ∨ n - 1 - i < k
    · rw [if_pos q]
    · rw [if_neg q, show k = n - 1 - k by omega]
      rw [show n - 1 - (n - 1 - k) = n - 1 - k by omega]
  | g + 1, f + 1, i, z, hg, hf, hz => by
    have ci := ck_in (show i < 5 by omega) (by decide)
    have cj := ck_in (show n - 1 - i < 5 by omega) (by decide)
    have e1 : z.2.2.1 12 i = nI (a i) := by rw [hz i (by omega), if_neg (by omega)]
    have e2 : z.2.2.1 12 (n - 1 - i) = nI (a (n - 1 - i)) := by rw [hz (n - 1 - i) (by omega), if_neg (by omega)]
    rw [l_N_turnRound_9, if_neg (nI_ge (show i < n - 1 - i by omega) (by omega))]
    simp only [if_neg ci, if_neg cj, let_s]
    simp only [nI_clamp (show i < 2 ^ 31 by omega), nI_clamp (show n - 1 - i < 2 ^ 31 by omega), sI_self, e1, e2, nI_1]
    rw [show nI (n - 1 - i) + (-1 : Int32) = nI (n - 1 - (i + 1)) by rw [show n - 1 - i = n - 1 - (i + 1) + 1 by omega, pk_m1]]
    generalize hw : s_I (s_I z 12 (upd (z.2.2.1 12) i (nI (a (n - 1 - i))))) 12 (upd (upd (z.2.2.1 12) i (nI (a (n - 1 - i)))) (n - 1 - i) (nI (a i))) = w
    have hfr : fr [] [] [12] [] w z := by
      rw [← hw]
      exact fr_tr (fr_I _ _ (by decide)) (fr_I _ _ (by decide))
    obtain ⟨z', b1, b2, b3⟩ := lp_turn h1 h5 g f (i + 1) w (by omega) (by omega) (fun k hk => by
      rw [← hw, sI_self]
      by_cases q1 : k = n - 1 - i
      · rw [q1, pk_us, if_pos (by omega), show n - 1 - (n - 1 - i) = i by omega]
      · rw [pk_un q1]
        by_cases q2 : k = i
        · rw [q2, pk_us, if_pos (by omega)]
        · rw [pk_un q2, hz k hk]
          by_cases q3 : k < i ∨ n - 1 - i < k
          · rw [if_pos q3, if_pos (by omega)]
          · rw [if_neg q3, if_neg (by omega)])
    exact ⟨z', b1, fr_tr b2 hfr, b3⟩
theorem f_turn {z : gS} {n : Nat} {a : Nat → Nat} (h1 : 1 ≤ n) (h5 : n ≤ 5) (hn : z.1 3 = nI n) (hz : ∀ k, k < n → z.2.2.1 12 k = nI (a k)) : ∃ z', f_N_turnRound z = some z' ∧ fr [] [] [12] [] z' z ∧ ∀ k, k < n → z'.2.2.1 12 k = nI (a (n - 1 - k)) := by
  unfold f_N_turnRound
  rw [let_s, hn, show nI n - (1 : Int32) = nI (n - 1 - 0) from pk_sub (b := 1) h1]
  obtain ⟨z', b1, b2, b3⟩ := lp_turn h1 h5 (n / 2) 200 0 z (by omega) (by omega) (fun k hk => by rw [if_neg (by omega)]; exact hz k hk)
  have b1' : l_N_turnRound_9 200 z 0 (nI (n - 1 - 0)) = some z' := b1
  rw [b1', bd1_s]
  exact ⟨z', rfl, b2, b3⟩
theorem lp_mrev {n : Nat} {a : Nat → Nat} (h5 : n ≤ 5) : ∀ (g f i : Nat) (z : gS), i + g = n / 2 → g < f → z.1 2 = nI n → (∀ k, k < n → z.2.2.1 11 k = nI (if k < i ∨ n - 1 - i < k then a (n - 1 - k) else a k)) → ∃ z', l_M_makeOrder_61 f z (nI i) = some z' ∧ fr [] [] [11] [] z' z ∧ ∀ k, k < n → z'.2.2.1 11 k = nI (a (n - 1 - k))
  | 0, f + 1, i, z, hg, hf, hn, hz => by
    rw [l_M_makeOrder_61, hn, show nI n / (2 : Int32) = nI (n / 2) from pk_div (d := 2) (by omega) (by decide) (by decide), if_pos (nI_le (show n / 2 ≤ i by omega) (by omega))]
    refine ⟨z, rfl, fr_rf _ _ _ _ z, fun k hk => ?_⟩
    rw [hz k hk]
    by_cases q : k < i ∨ n - 1 - i < k
    · rw [if_pos q]
    · rw [if_neg q, show k = n - 1 - k by omega]
      rw [show n - 1 - (n - 1 - k) = n - 1 - k by omega]
  | g + 1, f + 1, i, z, hg, hf, hn, hz => by
    have ci := ck_in (show i < 5 by omega) (by decide)
    have cj := ck_in (show n - 1 - i < 5 by omega) (by decide)
    have e1 : z.2.2.1 11 i = nI (a i) := by rw [hz i (by omega), if_neg (by omega)]
    have e2 : z.2.2.1 11 (n - 1 - i) = nI (a (n - 1 - i)) := by rw [hz (n - 1 - i) (by omega), if_neg (by omega)]
    have ej : nI n - (1 : Int32) - nI i = nI (n - 1 - i) := by
      rw [show nI n - (1 : Int32) = nI (n - 1) from pk_sub (b := 1) (by omega), pk_sub (by omega)]
    rw [l_M_makeOrder_61]
    simp only [sI_1, hn, ej, let_s]
    rw [show nI n / (2 : Int32) = nI (n / 2) from pk_div (d := 2) (by omega) (by decide) (by decide), if_neg (nI_ge (show i < n / 2 by omega) (by omega))]
    simp only [if_neg ci, if_neg cj]
    simp only [nI_clamp (show i < 2 ^ 31 by omega), nI_clamp (show n - 1 - i < 2 ^ 31 by omega), sI_self, e1, e2, nI_1]
    generalize hw : s_I (s_I z 11 (upd (z.2.2.1 11) i (nI (a (n - 1 - i))))) 11 (upd (upd (z.2.2.1 11) i (nI (a (n - 1 - i)))) (n - 1 - i) (nI (a i))) = w
    have hfr : fr [] [] [11] [] w z := by
      rw [← hw]
      exact fr_tr (fr_I _ _ (by decide)) (fr_I _ _ (by decide))
    obtain ⟨z', b1, b2, b3⟩ := lp_mrev h5 g f (i + 1) w (by omega) (by omega) (by rw [hfr.1 2 (by decide)]; exact hn) (fun k hk => by
      rw [← hw, sI_self]
      by_cases q1 : k = n - 1 - i
      · rw [q1, pk_us, if_pos (by omega), show n - 1 - (n - 1 - i) = i by omega]
      · rw [pk_un q1]
        by_cases q2 : k = i
        · rw [q2, pk_us, if_pos (by omega)]
        · rw [pk_un q2, hz k hk]
          by_cases q3 : k < i ∨ n - 1 - i < k
          · rw [if_pos q3, if_pos (by omega)]
          · rw [if_neg q3, if_neg (by omega)])
    exact ⟨z', b1, fr_tr b2 hfr, b3⟩
/-! the unknowns -/
def sl2 (nd : Nat → Nat) (k : Nat) : Nat := nd (k / 2) * 2 + k % 2
def uS (nd hd : Nat → Nat) : Nat → Nat × (Nat → Nat)
  | 0 => (0, fun _ => 0)
  | k + 1 => if hd (sl2 nd k) = 0 then ((uS nd hd k).1 + 1, va_up (uS nd hd k).2 (uS nd hd k).1 (sl2 nd k)) else uS nd hd k
theorem uS_y {nd hd : Nat → Nat} {k : Nat} (h : hd (sl2 nd k) = 0) : uS nd hd (k + 1) = ((uS nd hd k).1 + 1, va_up (uS nd hd k).2 (uS nd hd k).1 (sl2 nd k)) := if_pos h
theorem uS_n {nd hd : Nat → Nat} {k : Nat} (h : ¬ hd (sl2 nd k) = 0) : uS nd hd (k + 1) = uS nd hd k := if_neg h
theorem uS_le (nd hd : Nat → Nat) : ∀ k, (uS nd hd k).1 ≤ k
  | 0 => Nat.le_refl 0
  | k + 1 => by
    have := uS_le nd hd k
    by_cases q : hd (sl2 nd k) = 0
    · rw [uS_y q]; show (uS nd hd k).1 + 1 ≤ k + 1; omega
    · rw [uS_n q]; omega
theorem uS_at (nd hd : Nat → Nat) : ∀ k i, i < (uS nd hd k).1 → ∃ j, j < k ∧ (uS nd hd k).2 i = sl2 nd j ∧ hd (sl2 nd j) = 0
  | 0, i, hi => absurd hi (Nat.not_lt_zero i)
  | k + 1, i, hi => by
    by_cases q : hd (sl2 nd k) = 0
    · rw [uS_y q] at hi ⊢
      have hi' : i < (uS nd hd k).1 + 1 := hi
      show ∃ j, j < k + 1 ∧ va_up (uS nd hd k).2 (uS nd hd k).1 (sl2 nd k) i = sl2 nd j ∧ hd (sl2 nd j) = 0
      by_cases e : i = (uS nd hd k).1
      · exact ⟨k, by omega, by rw [e, va_up_self], q⟩
      · rw [va_up_ne _ _ e]
        obtain ⟨j, j1, j2, j3⟩ := uS_at nd hd k i (by omega)
        exact ⟨j, by omega, j2, j3⟩
    · rw [uS_n q] at hi ⊢
      obtain ⟨j, j1, j2, j3⟩ := uS_at nd hd k i hi
      exact ⟨j, by omega, j2, j3⟩
theorem uS_all (nd hd : Nat → Nat) : ∀ k j, j < k → hd (sl2 nd j) = 0 → ∃ i, i < (uS nd hd k).1 ∧ (uS nd hd k).2 i = sl2 nd j
  | 0, j, hj, _ => absurd hj (Nat.not_lt_zero j)
  | k + 1, j, hj, h0 => by
    by_cases q : hd (sl2 nd k) = 0
    · rw [uS_y q]
      show ∃ i, i < (uS nd hd k).1 + 1 ∧ va_up (uS nd hd k).2 (uS nd hd k).1 (sl2 nd k) i = sl2 nd j
      by_cases e : j = k
      · exact ⟨(uS nd hd k).1, by omega, by rw [va_up_self, e]⟩
      · obtain ⟨i, i1, i2⟩ := uS_all nd hd k j (by omega) h0
        exact ⟨i, by omega, by rw [va_up_ne _ _ (by omega)]; exact i2⟩
    · rw [uS_n q]
      have e : j ≠ k := fun e => q (e ▸ h0)
      exact uS_all nd hd k j (by omega) h0
theorem sl2_inj {nd : Nat → Nat} {n : Nat} (h : ∀ i, i < n → ∀ j, j < i → nd i ≠ nd j) {j k : Nat} (hk : k < 2 * n) (hj : j < k) : sl2 nd j ≠ sl2 nd k := by
  unfold sl2
  intro e
  have e1 : nd (j / 2) = nd (k / 2) := by omega
  have e2 : j % 2 = k % 2 := by omega
  have hlt : j / 2 < k / 2 := by omega
  exact h (k / 2) (by omega) (j / 2) hlt e1.symm
theorem uS_inj {nd hd : Nat → Nat} {n : Nat} (h : ∀ i, i < n → ∀ j, j < i → nd i ≠ nd j) : ∀ k, k ≤ 2 * n → ∀ i, i < (uS nd hd k).1 → ∀ j, j < i → (uS nd hd k).2 j ≠ (uS nd hd k).2 i
  | 0, _, i, hi, _, _ => absurd hi (Nat.not_lt_zero i)
  | k + 1, hk, i, hi, j, hj => by
    by_cases q : hd (sl2 nd k) = 0
    · rw [uS_y q] at hi ⊢
      have hi' : i < (uS nd hd k).1 + 1 := hi
      show va_up (uS nd hd k).2 (uS nd hd k).1 (sl2 nd k) j ≠ va_up (uS nd hd k).2 (uS nd hd k).1 (sl2 nd k) i
      rw [va_up_ne _ _ (show j ≠ (uS nd hd k).1 by omega)]
      by_cases e : i = (uS nd hd k).1
      · rw [e, va_up_self]
        obtain ⟨j', a1, a2, _⟩ := uS_at nd hd k j (by omega)
        rw [a2]
        exact sl2_inj h (by omega) a1
      · rw [va_up_ne _ _ e]
        exact uS_inj h k (by omega) i (by omega) j hj
    · rw [uS_n q] at hi ⊢
      exact uS_inj h k (by omega) i hi j hj
theorem sl2_lt {nd : Nat → Nat} {n k : Nat} (h : ∀ i, i < n → nd i < 5) (hk : k < 2 * n) : sl2 nd k < 10 := by
  have := h (k / 2) (by omega)
  unfold sl2
  omega
theorem uS_lt {nd hd : Nat → Nat} {n : Nat} (h : ∀ i, i < n → nd i < 5) {k : Nat} (hk : k ≤ 2 * n) {i : Nat} (hi : i < (uS nd hd k).1) : (uS nd hd k).2 i < 10 := by
  obtain ⟨j, a1, a2, _⟩ := uS_at nd hd k i hi
  rw [a2]
  exact sl2_lt h (by omega)
theorem lp_munk {nd hd : Nat → Nat} {n : Nat} (h5 : n ≤ 5) (hnd : ∀ i, i < n → nd i < 5) : ∀ (g f k : Nat) (z : gS), k + g = 2 * n → g < f → z.1 2 = nI n → (∀ i, i < n → z.2.2.1 11 i = nI (nd i)) → (∀ d, d < 10 → z.2.2.1 7 d = nI (hd d) ∧ hd d ≤ 1) → z.1 3 = nI (uS nd hd k).1 → (∀ i, i < (uS nd hd k).1 → z.2.2.1 12 i = nI ((uS nd hd k).2 i)) → ∃ z', l_M_makeOrder_124 f z (nI k) = some z' ∧ fr [3] [] [12] [] z' z ∧ z'.1 3 = nI (uS nd hd (2 * n)).1 ∧ ∀ i, i < (uS nd hd (2 * n)).1 → z'.2.2.1 12 i = nI ((uS nd hd (2 * n)).2 i)
  | 0, f + 1, k, z, hg, hf, h2, h11, h7, h3, h12 => by
    have : k = 2 * n := by omega
    subst this
    rw [l_M_makeOrder_124, h2, show nI n * (2 : Int32) = nI (n * 2) from pk_mul n 2, if_pos (nI_le (show n * 2 ≤ 2 * n by omega) (by omega))]
    exact ⟨z, rfl, fr_rf _ _ _ _ z, h3, h12⟩
  | g + 1, f + 1, k, z, hg, hf, h2, h11, h7, h3, h12 => by
    have hk : k < 2 * n := by omega
    have hs := sl2_lt hnd hk
    have ck1 := ck_in (show k / 2 < 5 by omega) (by decide)
    have ck2 := ck_in hs (by decide)
    obtain ⟨d1, d2⟩ := h7 _ hs
    have hu := uS_le nd hd k
    have ck3 := ck_in (show (uS nd hd k).1 < 10 by omega) (by decide)
    have ediv : nI k / (2 : Int32) = nI (k / 2) := pk_div (d := 2) (by omega) (by decide) (by decide)
    have erem : nI k - nI (k / 2) * (2 : Int32) = nI (k % 2) := by rw [← ediv]; exact pk_rem (d := 2) (by omega) (by decide) (by decide)
    rw [l_M_makeOrder_124, h2, show nI n * (2 : Int32) = nI (n * 2) from pk_mul n 2, if_neg (nI_ge (show k < n * 2 by omega) (by omega)), ediv, erem, if_neg ck1, nI_clamp (show k / 2 < 2 ^ 31 by omega), h11 _ (by omega), sl_of, let_s]
    rw [show nd (k / 2) * 2 + k % 2 = sl2 nd k from rfl, if_neg ck2, nI_clamp (show sl2 nd k < 2 ^ 31 by omega), d1, nI_1]
    by_cases q : hd (sl2 nd k) = 0
    · rw [q, if_pos (show nI 0 = 0 from rfl), h3, if_neg ck3, nI_clamp (show (uS nd hd k).1 < 2 ^ 31 by omega), let_s, sI_1, h3, let_s, let_s, nI_1]
      obtain ⟨z', b1, b2, b3, b4⟩ := lp_munk h5 hnd g f (k + 1) (s_i (s_I z 12 (upd (z.2.2.1 12) (uS nd hd k).1 (nI (sl2 nd k)))) 3 (nI ((uS nd hd k).1 + 1))) (by omega) (by omega) (by rw [si_ne _ _ (by decide), sI_1]; exact h2) (fun i hi => by rw [si_2, sI_ne _ _ (by decide)]; exact h11 i hi) (fun d hd => by rw [si_2, sI_ne _ _ (by decide)]; exact h7 d hd) (by rw [si_self, uS_y q]) (fun i hi => by
        rw [si_2, sI_self]
        rw [uS_y q] at hi ⊢
        have hi' : i < (uS nd hd k).1 + 1 := hi
        show upd (z.2.2.1 12) (uS nd hd k).1 (nI (sl2 nd k)) i = nI (va_up (uS nd hd k).2 (uS nd hd k).1 (sl2 nd k) i)
        by_cases e : i = (uS nd hd k).1
        · rw [e, pk_us, va_up_self]
        · rw [pk_un e, va_up_ne _ _ e]
          exact h12 i (by omega))
      exact ⟨z', b1, fr_tr b2 (fr_tr (fr_i _ _ (by decide)) (fr_I _ _ (by decide))), b3, b4⟩
    · rw [if_neg (nI_ne0 (by omega) (by omega))]
      obtain ⟨z', b1, b2, b3, b4⟩ := lp_munk h5 hnd g f (k + 1) z (by omega) (by omega) h2 h11 h7 (by rw [uS_n q]; exact h3) (fun i hi => by rw [uS_n q] at hi ⊢; exact h12 i hi)
      exact ⟨z', b1, b2, b3, b4⟩
/-! the program's numbering -/
def NS (nd hd : Nat → Nat) (k : Nat) (z : gS) : Prop := z.1 5 = nI (uS nd hd k).1 ∧ (∀ i, i < (uS nd hd k).1 → z.2.2.1 15 i = nI ((uS nd hd k).2 i)) ∧ ∀ j, j < k → (hd (sl2 nd j) = 0 ∧ ∃ i, i < (uS nd hd k).1 ∧ (uS nd hd k).2 i = sl2 nd j ∧ z.2.2.1 14 (sl2 nd j) = nI i) ∨ (¬ hd (sl2 nd j) = 0 ∧ z.2.2.1 14 (sl2 nd j) = -2)
theorem f_ns {nd hd : Nat → Nat} {n : Nat} (h5 : n ≤ 5) (hnd : ∀ i, i < n → nd i < 5) (hin : ∀ i, i < n → ∀ j, j < i → nd i ≠ nd j) {k : Nat} {z : gS} (hk : k < 2 * n) (h9 : ∀ d, d < 10 → z.2.2.1 9 d = nI (hd d) ∧ hd d ≤ 1) (hN : NS nd hd k z) : ∃ z', f_N_numberSlot_1 z (nI (sl2 nd k)) = some z' ∧ fr [5] [] [14, 15] [] z' z ∧ NS nd hd (k + 1) z' := by
  obtain ⟨n1, n2, n3⟩ := hN
  have hs := sl2_lt hnd hk
  have ck := ck_in hs (by decide)
  obtain ⟨d1, d2⟩ := h9 _ hs
  have hu := uS_le nd hd k
  have ck3 := ck_in (show (uS nd hd k).1 < 10 by omega) (by decide)
  unfold f_N_numberSlot_1
  simp only [if_neg ck, let_s]
  rw [nI_clamp (show sl2 nd k < 2 ^ 31 by omega), d1]
  by_cases q : hd (sl2 nd k) = 0
  · rw [q, if_pos (show nI 0 = 0 from rfl)]
    simp only [sI_1, n1]
    rw [if_neg ck3, nI_clamp (show (uS nd hd k).1 < 2 ^ 31 by omega), nI_1, sI_ne _ _ (show 15 ≠ 14 by decide)]
    refine ⟨_, rfl, fr_tr (fr_i _ _ (by decide)) (fr_tr (fr_I _ _ (by decide)) (fr_I _ _ (by decide))), ?_, fun i hi => ?_, fun j hj => ?_⟩
    · rw [si_self, uS_y q]
    · rw [si_2, sI_self]
      rw [uS_y q] at hi ⊢
      have hi' : i < (uS nd hd k).1 + 1 := hi
      show upd (z.2.2.1 15) (uS nd hd k).1 (nI (sl2 nd k)) i = nI (va_up (uS nd hd k).2 (uS nd hd k).1 (sl2 nd k) i)
      by_cases e : i = (uS nd hd k).1
      · rw [e, pk_us, va_up_self]
      · rw [pk_un e, va_up_ne _ _ e]
        exact n2 i (by omega)
    · rw [si_2, sI_ne _ _ (show 14 ≠ 15 by decide), sI_self, uS_y q]
      by_cases e : j = k
      · rw [e]
        refine Or.inl ⟨q, (uS nd hd k).1, by show _ < _ + 1; omega, ?_, ?_⟩
        · show va_up (uS nd hd k).2 (uS nd hd k).1 (sl2 nd k) (uS nd hd k).1 = _
          rw [va_up_self]
        · rw [pk_us]
      · have hne := sl2_inj hin hk (show j < k by omega)
        rw [pk_un hne]
        rcases n3 j (by omega) with ⟨r1, i, r2, r3, r4⟩ | r
        · refine Or.inl ⟨r1, i, by show _ < _ + 1; omega, ?_, r4⟩
          show va_up (uS nd hd k).2 (uS nd hd k).1 (sl2 nd k) i = _
          rw [va_up_ne _ _ (by omega)]
          exact r3
        · exact Or.inr r
  · rw [if_neg (nI_ne0 (by omega) (by omega))]
    refine ⟨_, rfl, fr_I _ _ (by decide), by rw [uS_n q]; exact n1, fun i hi => ?_, fun j hj => ?_⟩
    · rw [uS_n q] at hi ⊢
      rw [sI_ne _ _ (show 15 ≠ 14 by decide)]
      exact n2 i hi
    · rw [sI_self, uS_n q]
      by_cases e : j = k
      · rw [e, pk_us]
        exact Or.inr ⟨q, rfl⟩
      · have hne := sl2_inj hin hk (show j < k by omega)
        rw [pk_un hne]
        exact n3 j (by omega)
theorem lp_cnum {nd hd : Nat → Nat} {n : Nat} (h5 : n ≤ 5) (hnd : ∀ i, i < n → nd i < 5) (hin : ∀ i, i < n → ∀ j, j < i → nd i ≠ nd j) : ∀ (g f k : Nat) (z : gS), k + g = n → g < f → z.1 3 = nI n → (∀ i, i < n → z.2.2.1 12 i = nI (nd i)) → (∀ d, d < 10 → z.2.2.1 9 d = nI (hd d) ∧ hd d ≤ 1) → NS nd hd (2 * k) z → ∃ z', l_N_numberSlots_1_7 f z (nI k) = some z' ∧ fr [5] [] [14, 15] [] z' z ∧ NS nd hd (2 * n) z'
  | 0, f + 1, k, z, hg, hf, h3, h12, h9, hN => by
    have : k = n := by omega
    subst this
    rw [l_N_numberSlots_1_7, h3, if_pos (nI_le (Nat.le_refl _) (by omega))]
    exact ⟨z, rfl, fr_rf _ _ _ _ z, hN⟩
  | g + 1, f + 1, k, z, hg, hf, h3, h12, h9, hN => by
    have ck := ck_in (show k < 5 by omega) (by decide)
    rw [l_N_numberSlots_1_7, h3, if_neg (nI_ge (show k < n by omega) (by omega))]
    have e0 : nd k * 2 + 0 = sl2 nd (2 * k) := by unfold sl2; rw [show 2 * k / 2 = k by omega, show 2 * k % 2 = 0 by omega]
    have e1 : nd k * 2 + 1 = sl2 nd (2 * k + 1) := by unfold sl2; rw [show (2 * k + 1) / 2 = k by omega, show (2 * k + 1) % 2 = 1 by omega]
    obtain ⟨z1, a1, a2, a3⟩ := f_ns h5 hnd hin (show 2 * k < 2 * n by omega) h9 hN
    obtain ⟨z2, b1, b2, b3⟩ := f_ns h5 hnd hin (show 2 * k + 1 < 2 * n by omega) (fun d hd => by rw [a2.2.2.1 9 (by decide)]; exact h9 d hd) a3
    have hx : l_N_numberSlots_1_17 200 z (nI k) (nI 0) = some (nI k, z2) := by
      rw [l_N_numberSlots_1_17, if_neg (by decide), if_neg ck, nI_clamp (show k < 2 ^ 31 by omega), h12 k (by omega), f_slot, bd2_s, e0, a1, bd1_s, nI_1]
      rw [l_N_numberSlots_1_17, if_neg (by decide), if_neg ck, nI_clamp (show k < 2 ^ 31 by omega), a2.2.2.1 12 (by decide), h12 k (by omega), f_slot, bd2_s, e1, b1, bd1_s, nI_1]
      rw [l_N_numberSlots_1_17, if_pos (by decide)]
    have hx' : l_N_numberSlots_1_17 200 z (nI k) 0 = some (nI k, z2) := hx
    rw [hx', bd2_s, nI_1]
    have hfr := fr_tr b2 a2
    obtain ⟨z', c1, c2, c3⟩ := lp_cnum h5 hnd hin g f (k + 1) z2 (by omega) (by omega) (by rw [hfr.1 3 (by decide)]; exact h3) (fun i hi => by rw [hfr.2.2.1 12 (by decide)]; exact h12 i hi) (fun d hd => by rw [hfr.2.2.1 9 (by decide)]; exact h9 d hd) b3
    exact ⟨z', c1, fr_tr c2 hfr, c3⟩
theorem f_cnum {nd hd : Nat → Nat} {n : Nat} {z : gS} (h5 : n ≤ 5) (hnd : ∀ i, i < n → nd i < 5) (hin : ∀ i, i < n → ∀ j, j < i → nd i ≠ nd j) (h3 : z.1 3 = nI n) (h12 : ∀ i, i < n → z.2.2.1 12 i = nI (nd i)) (h9 : ∀ d, d < 10 → z.2.2.1 9 d = nI (hd d) ∧ hd d ≤ 1) : ∃ z', f_N_numberSlots_1 z = some z' ∧ fr [5] [] [14, 15] [] z' z ∧ NS nd hd (2 * n) z' := by
  unfold f_N_numberSlots_1
  rw [let_s]
  obtain ⟨z', c1, c2, c3⟩ := lp_cnum h5 hnd hin n 200 0 (s_i z 5 0) (by omega) (by omega) (by rw [si_ne _ _ (by decide)]; exact h3) h12 h9 ⟨by rw [si_self]; rfl, fun i hi => absurd hi (Nat.not_lt_zero i), fun j hj => absurd hj (Nat.not_lt_zero j)⟩
  have c1' : l_N_numberSlots_1_7 200 (s_i z 5 0) 0 = some z' := c1
  rw [c1', bd1_s]
  exact ⟨z', rfl, fr_tr c2 (fr_i _ _ (by decide)), c3⟩
