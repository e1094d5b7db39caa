/-! bar, unbar -/
theorem sI_1 (z : gS) (k : Nat) (h : Nat → Int32) : (s_I z k h).1 = z.1 := rfl
theorem sI_21 (z : gS) (k : Nat) (h : Nat → Int32) : (s_I z k h).2.1 = z.2.1 := rfl
theorem sI_222 (z : gS) (k : Nat) (h : Nat → Int32) : (s_I z k h).2.2.2 = z.2.2.2 := rfl
theorem sI_self (z : gS) (k : Nat) (h : Nat → Int32) : (s_I z k h).2.2.1 k = h := by
  show va_up z.2.2.1 k h k = h
  simp [va_up]
theorem sI_ne (z : gS) {k j : Nat} (h : Nat → Int32) (q : j ≠ k) : (s_I z k h).2.2.1 j = z.2.2.1 j := by
  show va_up z.2.2.1 k h j = _
  rw [va_up_ne _ _ q]
theorem si_2 (z : gS) (k : Nat) (x : Int32) : (s_i z k x).2 = z.2 := rfl
theorem si_self (z : gS) (k : Nat) (x : Int32) : (s_i z k x).1 k = x := by
  show va_up z.1 k x k = x
  simp [va_up]
theorem si_ne (z : gS) {k j : Nat} (x : Int32) (q : j ≠ k) : (s_i z k x).1 j = z.1 j := by
  show va_up z.1 k x j = _
  rw [va_up_ne _ _ q]
theorem ok_bar {SK : skT} {z1 z2 : gS} {p1 p2 p3 : Int32} (h : iv SK z1 z2) : ∃ r w1 w2, f_S_bar z1 p1 p2 p3 = some (r, w1) ∧ f_M_bar z2 p1 p2 p3 = some (r, w2) ∧ iv SK w1 w2 := by
  unfold f_S_bar f_M_bar
  rcases gd_node p1 with ⟨n1, n2⟩ | ⟨a, hla, rfl, n1, n2⟩
  · rw [n1, n2]
    exact ⟨-1, z1, z2, rfl, rfl, h⟩
  rcases gd_node p2 with ⟨d1, d2⟩ | ⟨b, hlb, rfl, d1, d2⟩
  · simp only [n1, n2, d1, d2, bd2_s, if_neg c_one, if_true]
    exact ⟨-1, z1, z2, rfl, rfl, h⟩
  simp only [n1, n2, d1, d2, bd2_s, if_neg c_one, if_true]
  by_cases c1 : p3 < (1 : Int32)
  · simp only [if_pos c1]
    exact ⟨-1, z1, z2, rfl, rfl, h⟩
  by_cases c2 : (3 : Int32) < p3
  · simp only [if_neg c1, if_pos c2]
    exact ⟨-1, z1, z2, rfl, rfl, h⟩
  by_cases c3 : nI a = nI b
  · simp only [if_neg c1, if_neg c2, if_pos c3]
    exact ⟨-1, z1, z2, rfl, rfl, h⟩
  have hab : a ≠ b := fun e => c3 (by rw [e])
  simp only [if_neg c1, if_neg c2, if_neg c3]
  obtain ⟨k, hk1, hk2, rfl⟩ : ∃ k : Nat, 1 ≤ k ∧ k ≤ 3 ∧ p3 = nI k := by
    have e1 : 1 ≤ p3.toInt := by
      rw [Int32.lt_iff_toInt_lt, show (1 : Int32).toInt = 1 from by decide] at c1
      omega
    have e2 : p3.toInt ≤ 3 := by
      rw [Int32.lt_iff_toInt_lt, show (3 : Int32).toInt = 3 from by decide] at c2
      omega
    refine ⟨p3.toInt.toNat, by omega, by omega, ?_⟩
    rw [← Int32.toInt_inj, nI_toInt (by omega)]
    omega
  obtain ⟨mk, nb, pt, fi, se, st, hd, sp, ha, ld, hb, hs⟩ := id h
  rcases hs with ⟨s1, s2⟩ | ⟨s1, s2, s3⟩
  case inr =>
    simp only [s1, s2, if_neg c_one]
    exact ⟨-4, z1, z2, rfl, rfl, h⟩
  obtain ⟨⟨m1, m2, m3, m4, m5⟩, b2, b3, b4, b5, b6, b7, b8⟩ := hb
  simp only [s1, s2, m4, m5, if_true]
  by_cases hn : nb = 10
  · subst hn
    rw [if_neg (by decide), if_pos (by decide)]
    exact ⟨-3, z1, z2, rfl, rfl, h⟩
  have hnb : nb < 10 := by omega
  have hck := ck_in hnb (by decide)
  rw [if_pos (show nI nb < (10 : Int32) from nI_lt (b := 10) hnb (by decide)), if_neg (show ¬ nI nb = (10 : Int32) from fun e => hn ((nI_eq (b := 10) (by omega) (by decide)).mp e))]
  unfold f_T_addBar
  simp only [let_s, sI_1, m4, m5, if_neg hck, bd2_s, si_self]
  rw [nI_clamp (show nb < 2 ^ 31 by omega)]
  have er : nI nb + (1 : Int32) - 1 = nI nb := by rw [nI_1, nI_pred]
  rw [er]
  refine ⟨nI nb, _, _, rfl, rfl, mk, nb + 1, pt, fun q => if q = nb then a else fi q, fun q => if q = nb then b else se q, fun q => if q = nb then k else st q, hd, sp, ha, ld, ⟨⟨m1, by omega, ?_, ?_, ?_⟩, ?_, ?_, fun i hi => ?_, ?_, ?_, ?_, ?_⟩, Or.inl ⟨?_, ?_⟩⟩
  · rw [si_ne _ _ (by decide)]; exact m3
  · rw [si_self, nI_1]
  · rw [si_self, nI_1]
  · simp only [si_2, sI_ne _ _ (show (1 : Nat) ≠ 4 by decide), sI_ne _ _ (show (1 : Nat) ≠ 5 by decide), sI_ne _ _ (show (1 : Nat) ≠ 6 by decide)]; exact b2
  · simp only [si_2, sI_ne _ _ (show (5 : Nat) ≠ 6 by decide), sI_ne _ _ (show (5 : Nat) ≠ 7 by decide), sI_ne _ _ (show (5 : Nat) ≠ 8 by decide), sI_ne _ _ (show (2 : Nat) ≠ 4 by decide), sI_ne _ _ (show (2 : Nat) ≠ 5 by decide), sI_ne _ _ (show (2 : Nat) ≠ 6 by decide), sI_ne _ _ (show (3 : Nat) ≠ 4 by decide), sI_ne _ _ (show (3 : Nat) ≠ 5 by decide), sI_ne _ _ (show (3 : Nat) ≠ 6 by decide)]; exact b3
  · show upd (z1.2.2.1 6) nb (nI a) i = nI (if i = nb then a else fi i) ∧ upd (z1.2.2.1 7) nb (nI b) i = nI (if i = nb then b else se i) ∧ upd (z1.2.2.1 8) nb (nI k) i = nI (if i = nb then k else st i) ∧ upd (z2.2.2.1 4) nb (nI a) i = nI (if i = nb then a else fi i) ∧ upd (z2.2.2.1 5) nb (nI b) i = nI (if i = nb then b else se i) ∧ upd (z2.2.2.1 6) nb (nI k) i = nI (if i = nb then k else st i) ∧ (if i = nb then a else fi i) < 5 ∧ (if i = nb then b else se i) < 5 ∧ (if i = nb then a else fi i) ≠ (if i = nb then b else se i) ∧ 1 ≤ (if i = nb then k else st i) ∧ (if i = nb then k else st i) ≤ 3
    by_cases e : i = nb
    · simp only [if_pos e]
      rw [e, pk_us, pk_us, pk_us, pk_us, pk_us, pk_us]
      exact ⟨rfl, rfl, rfl, rfl, rfl, rfl, hla, hlb, hab, hk1, hk2⟩
    · simp only [if_neg e, pk_un e]
      exact b4 i (by omega)
  · simp only [si_2, sI_ne _ _ (show (9 : Nat) ≠ 6 by decide), sI_ne _ _ (show (9 : Nat) ≠ 7 by decide), sI_ne _ _ (show (9 : Nat) ≠ 8 by decide), sI_ne _ _ (show (7 : Nat) ≠ 4 by decide), sI_ne _ _ (show (7 : Nat) ≠ 5 by decide), sI_ne _ _ (show (7 : Nat) ≠ 6 by decide)]; exact b5
  · simp only [si_2, sI_ne _ _ (show (10 : Nat) ≠ 6 by decide), sI_ne _ _ (show (10 : Nat) ≠ 7 by decide), sI_ne _ _ (show (10 : Nat) ≠ 8 by decide), sI_ne _ _ (show (8 : Nat) ≠ 4 by decide), sI_ne _ _ (show (8 : Nat) ≠ 5 by decide), sI_ne _ _ (show (8 : Nat) ≠ 6 by decide)]; exact b6
  · simp only [si_2, sI_ne _ _ (show (11 : Nat) ≠ 6 by decide), sI_ne _ _ (show (11 : Nat) ≠ 7 by decide), sI_ne _ _ (show (11 : Nat) ≠ 8 by decide), sI_ne _ _ (show (9 : Nat) ≠ 4 by decide), sI_ne _ _ (show (9 : Nat) ≠ 5 by decide), sI_ne _ _ (show (9 : Nat) ≠ 6 by decide)]; exact b7
  · intro c hc q hq
    simp only [si_2, sI_ne _ _ (show c + 28 ≠ 6 by omega), sI_ne _ _ (show c + 28 ≠ 7 by omega), sI_ne _ _ (show c + 28 ≠ 8 by omega), sI_ne _ _ (show (10 : Nat) ≠ 4 by decide), sI_ne _ _ (show (10 : Nat) ≠ 5 by decide), sI_ne _ _ (show (10 : Nat) ≠ 6 by decide)]
    exact b8 c hc q hq
  · rw [si_ne _ _ (by decide)]; exact s1
  · rw [si_ne _ _ (by decide)]; exact s2
