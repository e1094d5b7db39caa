/-! hold, spring, load -/
theorem le_cut (x : Int32) (n : Nat) (hn : n + 1 < 2 ^ 31) : x ≤ nI n ↔ ¬ nI (n + 1) ≤ x := by
  rw [Int32.le_iff_toInt_le, Int32.le_iff_toInt_le, nI_toInt (by omega), nI_toInt hn]
  omega
/-- a guard of both: x is one of 0 .. n, or not -/
theorem gd_off (x : Int32) (n : Nat) (hn : n + 1 < 2 ^ 31) : (∀ w, f_M_off w x (nI n) = some (1, w)) ∧ (x < 0 ∨ nI (n + 1) ≤ x) ∨ ∃ j, j < n + 1 ∧ x = nI j ∧ (∀ w, f_M_off w x (nI n) = some (0, w)) ∧ ¬ x < 0 ∧ ¬ nI (n + 1) ≤ x := by
  by_cases h0 : x < 0
  · exact Or.inl ⟨fun w => by unfold f_M_off; rw [if_pos h0], Or.inl h0⟩
  · by_cases h1 : nI (n + 1) ≤ x
    · exact Or.inl ⟨fun w => by unfold f_M_off; rw [if_neg h0, if_neg (fun q => (le_cut x n hn).mp q h1)], Or.inr h1⟩
    · obtain ⟨j, hj, e⟩ := ix_of (n + 1) rfl hn h0 h1
      exact Or.inr ⟨j, hj, e, fun w => by unfold f_M_off; rw [if_neg h0, if_pos ((le_cut x n hn).mpr h1)], h0, h1⟩
theorem gd_node (x : Int32) : (∀ z, f_S_isNode z x = some (0, z)) ∧ (∀ w, f_M_off w x 4 = some (1, w)) ∨ ∃ j, j < 5 ∧ x = nI j ∧ (∀ z, f_S_isNode z x = some (1, z)) ∧ ∀ w, f_M_off w x 4 = some (0, w) := by
  rcases gd_off x 4 (by decide) with ⟨h, q⟩ | ⟨j, hj, e, h, q0, q1⟩
  · refine Or.inl ⟨fun z => ?_, h⟩
    unfold f_S_isNode
    by_cases h0 : x < 0
    · rw [if_pos h0]
    · rcases q with q | q
      · exact absurd q h0
      · rw [if_neg h0, if_pos (show (5 : Int32) ≤ x from q)]
  · exact Or.inr ⟨j, hj, e, fun z => by unfold f_S_isNode; rw [if_neg q0, if_neg (show ¬ (5 : Int32) ≤ x from q1)], h⟩
theorem gd_grid (x : Int32) : (∀ z, f_S_isOnGrid z x = some (0, z)) ∧ (∀ w, f_M_off w x 4 = some (1, w)) ∨ ∃ j, j < 5 ∧ x = nI j ∧ (∀ z, f_S_isOnGrid z x = some (1, z)) ∧ ∀ w, f_M_off w x 4 = some (0, w) := gd_node x
theorem gd_dir (x : Int32) : (∀ z, f_S_isDirection z x = some (0, z)) ∧ (∀ w, f_M_off w x 1 = some (1, w)) ∨ ∃ j, j < 2 ∧ x = nI j ∧ (∀ z, f_S_isDirection z x = some (1, z)) ∧ ∀ w, f_M_off w x 1 = some (0, w) := by
  rcases gd_off x 1 (by decide) with ⟨h, q⟩ | ⟨j, hj, e, h, q0, q1⟩
  · refine Or.inl ⟨fun z => ?_, h⟩
    unfold f_S_isDirection
    by_cases h0 : x < 0
    · rw [if_pos h0]
    · rcases q with q | q
      · exact absurd q h0
      · rw [if_neg h0, if_pos (show (2 : Int32) ≤ x from q)]
  · exact Or.inr ⟨j, hj, e, fun z => by unfold f_S_isDirection; rw [if_neg q0, if_neg (show ¬ (2 : Int32) ≤ x from q1)], h⟩
theorem gd_case (x : Int32) : (∀ z, f_S_isCase z x = some (0, z)) ∧ (∀ w, f_M_off w x 3 = some (1, w)) ∨ ∃ j, j < 4 ∧ x = nI j ∧ (∀ z, f_S_isCase z x = some (1, z)) ∧ ∀ w, f_M_off w x 3 = some (0, w) := by
  rcases gd_off x 3 (by decide) with ⟨h, q⟩ | ⟨j, hj, e, h, q0, q1⟩
  · refine Or.inl ⟨fun z => ?_, h⟩
    unfold f_S_isCase
    by_cases h0 : x < 0
    · rw [if_pos h0]
    · rcases q with q | q
      · exact absurd q h0
      · rw [if_neg h0, if_pos (show (4 : Int32) ≤ x from q)]
  · exact Or.inr ⟨j, hj, e, fun z => by unfold f_S_isCase; rw [if_neg q0, if_neg (show ¬ (4 : Int32) ≤ x from q1)], h⟩
theorem sl_of (a d : Nat) : nI a * (2 : Int32) + nI d = nI (a * 2 + d) := by
  rw [show (2 : Int32) = nI 2 from rfl, pk_mul, nI_add]
theorem f_slot (z : gS) (a d : Nat) : f_S_slotOf z (nI a) (nI d) = some (nI (a * 2 + d), z) := by
  unfold f_S_slotOf
  rw [sl_of]
theorem i32_rng {x : Int32} {a b : Int} {A B : Int32} (hA : A.toInt = a) (hB : B.toInt = b) (h1 : ¬ x < A) (h2 : x ≤ B) : a ≤ x.toInt ∧ x.toInt ≤ b := by
  rw [Int32.lt_iff_toInt_lt, hA] at h1
  rw [Int32.le_iff_toInt_le, hB] at h2
  omega
theorem c_one : ¬ ((1 : Int32) = 0) := by decide
theorem ok_hold {SK : skT} {z1 z2 : gS} {p1 p2 p3 p4 : Int32} (h : iv SK z1 z2) (h3 : p3 = 0 ∨ p3 = 1) : ∃ r w1 w2, f_S_hold z1 p1 p2 p3 p4 = some (r, w1) ∧ f_M_hold z2 p1 p2 p3 p4 = some (r, w2) ∧ iv SK w1 w2 := by
  unfold f_S_hold f_M_hold
  rcases gd_node p1 with ⟨n1, n2⟩ | ⟨a, hla, rfl, n1, n2⟩
  · rw [n1, n2]
    exact ⟨-1, z1, z2, rfl, rfl, h⟩
  rcases gd_dir p2 with ⟨d1, d2⟩ | ⟨d, hld, rfl, d1, d2⟩
  · simp only [n1, n2, d1, d2, bd2_s, if_neg c_one, if_true]
    exact ⟨-1, z1, z2, rfl, rfl, h⟩
  simp only [n1, n2, d1, d2, bd2_s, if_neg c_one, if_true]
  by_cases c1 : p4 < (-9 : Int32)
  · simp only [if_pos c1]
    exact ⟨-1, z1, z2, rfl, rfl, h⟩
  by_cases c2 : p4 ≤ (9 : Int32)
  case neg =>
    simp only [if_neg c1, if_neg c2]
    exact ⟨-1, z1, z2, rfl, rfl, h⟩
  simp only [if_neg c1, if_pos c2]
  obtain ⟨mk, nb, pt, fi, se, st, hd, sp, ha, ld, hb, hs⟩ := id h
  rcases hs with ⟨s1, s2⟩ | ⟨s1, s2, s3⟩
  case inr =>
    simp only [s1, s2, if_neg c_one]
    exact ⟨-4, z1, z2, rfl, rfl, h⟩
  have hsl : a * 2 + d < 10 := by omega
  have hck := ck_in hsl (by decide)
  simp only [s1, s2, if_true, f_slot, bd2_s, sl_of, if_neg hck, let_s]
  obtain ⟨hr1, hr2⟩ := i32_rng (a := -9) (b := 9) (by decide) (by decide) c1 c2
  obtain ⟨k, hk, hk2⟩ : ∃ k, vp_nar .boolean p3 = nI k ∧ k ≤ 1 := by
    rcases h3 with rfl | rfl
    · exact ⟨0, rfl, by decide⟩
    · exact ⟨1, rfl, by decide⟩
  refine ⟨0, _, _, rfl, rfl, mk, nb, pt, fi, se, st, fun q => if q = a * 2 + d then k else hd q, sp, fun q => if q = a * 2 + d then p4.toInt else ha q, ld, ?_, Or.inl ⟨s1, s2⟩⟩
  obtain ⟨b1, b2, b3, b4, b5, b6, b7, b8⟩ := hb
  rw [hk, nI_clamp (show a * 2 + d < 2 ^ 31 by omega)]
  refine ⟨b1, b2, b3, b4, fun q hq => ?_, fun q hq => ?_, b7, fun c hc q hq => ?_⟩
  · show upd (z1.2.2.1 9) (a * 2 + d) (nI k) q = nI (if q = a * 2 + d then k else hd q) ∧ upd (z2.2.2.1 7) (a * 2 + d) (nI k) q = nI (if q = a * 2 + d then k else hd q) ∧ (if q = a * 2 + d then k else hd q) ≤ 1
    by_cases e : q = a * 2 + d
    · rw [if_pos e, e, pk_us, pk_us]
      exact ⟨rfl, rfl, hk2⟩
    · rw [if_neg e, pk_un e, pk_un e]
      exact b5 q hq
  · show upd (z1.2.2.1 10) (a * 2 + d) p4 q = iI (if q = a * 2 + d then p4.toInt else ha q) ∧ upd (z2.2.2.1 8) (a * 2 + d) p4 q = iI (if q = a * 2 + d then p4.toInt else ha q) ∧ -9 ≤ (if q = a * 2 + d then p4.toInt else ha q) ∧ (if q = a * 2 + d then p4.toInt else ha q) ≤ 9
    by_cases e : q = a * 2 + d
    · rw [if_pos e, e, pk_us, pk_us]
      exact ⟨iI_of p4, iI_of p4, hr1, hr2⟩
    · rw [if_neg e, pk_un e, pk_un e]
      exact b6 q hq
  · have := b8 c hc q hq
    have e1 : ∀ x : gS, ∀ f g : Nat → Int32, (s_I (s_I x 9 f) 10 g).2.2.1 (c + 28) = x.2.2.1 (c + 28) := fun x f g => by
      show va_up (va_up x.2.2.1 9 f) 10 g (c + 28) = _
      rw [va_up_ne _ _ (show c + 28 ≠ 10 by omega), va_up_ne _ _ (show c + 28 ≠ 9 by omega)]
    rw [e1]
    exact this
theorem ok_spring {SK : skT} {z1 z2 : gS} {p1 p2 p3 : Int32} (h : iv SK z1 z2) : ∃ r w1 w2, f_S_spring z1 p1 p2 p3 = some (r, w1) ∧ f_M_spring z2 p1 p2 p3 = some (r, w2) ∧ iv SK w1 w2 := by
  unfold f_S_spring f_M_spring
  rcases gd_node p1 with ⟨n1, n2⟩ | ⟨a, hla, rfl, n1, n2⟩
  · rw [n1, n2]
    exact ⟨-1, z1, z2, rfl, rfl, h⟩
  rcases gd_dir p2 with ⟨d1, d2⟩ | ⟨d, hld, rfl, d1, d2⟩
  · simp only [n1, n2, d1, d2, bd2_s, if_neg c_one, if_true]
    exact ⟨-1, z1, z2, rfl, rfl, h⟩
  simp only [n1, n2, d1, d2, bd2_s, if_neg c_one, if_true]
  rcases gd_off p3 3 (by decide) with ⟨k1, k2⟩ | ⟨k, hlk, rfl, k1, k2, k3⟩
  · have k1' : ∀ w, f_M_off w p3 3 = some (1, w) := k1
    simp only [k1', bd2_s, if_neg c_one]
    by_cases c1 : p3 < 0
    · simp only [if_pos c1]
      exact ⟨-1, z1, z2, rfl, rfl, h⟩
    · have c2 : ¬ p3 ≤ (3 : Int32) := fun q => by
        rcases k2 with k2 | k2
        · exact c1 k2
        · exact (le_cut p3 3 (by decide)).mp q k2
      simp only [if_neg c1, if_neg c2]
      exact ⟨-1, z1, z2, rfl, rfl, h⟩
  have k1' : ∀ w, f_M_off w (nI k) 3 = some (0, w) := k1
  have c2 : nI k ≤ (3 : Int32) := (le_cut (nI k) 3 (by decide)).mpr k3
  simp only [k1', bd2_s, if_neg k2, if_pos c2, if_true]
  obtain ⟨mk, nb, pt, fi, se, st, hd, sp, ha, ld, hb, hs⟩ := id h
  rcases hs with ⟨s1, s2⟩ | ⟨s1, s2, s3⟩
  case inr =>
    simp only [s1, s2, if_neg c_one]
    exact ⟨-4, z1, z2, rfl, rfl, h⟩
  have hsl : a * 2 + d < 10 := by omega
  have hck := ck_in hsl (by decide)
  simp only [s1, s2, if_true, f_slot, bd2_s, sl_of, if_neg hck, let_s]
  refine ⟨0, _, _, rfl, rfl, mk, nb, pt, fi, se, st, hd, fun q => if q = a * 2 + d then k else sp q, ha, ld, ?_, Or.inl ⟨s1, s2⟩⟩
  obtain ⟨b1, b2, b3, b4, b5, b6, b7, b8⟩ := hb
  rw [nI_clamp (show a * 2 + d < 2 ^ 31 by omega)]
  refine ⟨b1, b2, b3, b4, b5, b6, fun q hq => ?_, fun c hc q hq => ?_⟩
  · show upd (z1.2.2.1 11) (a * 2 + d) (nI k) q = nI (if q = a * 2 + d then k else sp q) ∧ upd (z2.2.2.1 9) (a * 2 + d) (nI k) q = nI (if q = a * 2 + d then k else sp q) ∧ (if q = a * 2 + d then k else sp q) ≤ 3
    by_cases e : q = a * 2 + d
    · rw [if_pos e, e, pk_us, pk_us]
      exact ⟨rfl, rfl, by omega⟩
    · rw [if_neg e, pk_un e, pk_un e]
      exact b7 q hq
  · have := b8 c hc q hq
    have e1 : ∀ x : gS, ∀ f : Nat → Int32, (s_I x 11 f).2.2.1 (c + 28) = x.2.2.1 (c + 28) := fun x f => by
      show va_up x.2.2.1 11 f (c + 28) = _
      rw [va_up_ne _ _ (show c + 28 ≠ 11 by omega)]
    rw [e1]
    exact this
theorem ok_load {SK : skT} (hSK : ∀ z c f mk nb pt fi se st hd sp, SK z mk nb pt fi se st hd sp → SK (s_I z (c + 28) f) mk nb pt fi se st hd sp) {z1 z2 : gS} {p1 p2 p3 p4 : Int32} (h : iv SK z1 z2) : ∃ r w1 w2, f_S_load z1 p1 p2 p3 p4 = some (r, w1) ∧ f_M_load z2 p1 p2 p3 p4 = some (r, w2) ∧ iv SK w1 w2 := by
  unfold f_S_load f_M_load
  rcases gd_case p1 with ⟨m1, m2⟩ | ⟨c, hlc, rfl, m1, m2⟩
  · rw [m1, m2]
    exact ⟨-1, z1, z2, rfl, rfl, h⟩
  rcases gd_node p2 with ⟨n1, n2⟩ | ⟨a, hla, rfl, n1, n2⟩
  · simp only [m1, m2, n1, n2, bd2_s, if_neg c_one, if_true]
    exact ⟨-1, z1, z2, rfl, rfl, h⟩
  rcases gd_dir p3 with ⟨d1, d2⟩ | ⟨d, hld, rfl, d1, d2⟩
  · simp only [m1, m2, n1, n2, d1, d2, bd2_s, if_neg c_one, if_true]
    exact ⟨-1, z1, z2, rfl, rfl, h⟩
  simp only [m1, m2, n1, n2, d1, d2, bd2_s, if_neg c_one, if_true]
  by_cases c1 : p4 < (-99 : Int32)
  · simp only [if_pos c1]
    exact ⟨-1, z1, z2, rfl, rfl, h⟩
  by_cases c2 : p4 ≤ (99 : Int32)
  case neg =>
    simp only [if_neg c1, if_neg c2]
    exact ⟨-1, z1, z2, rfl, rfl, h⟩
  have hsl : a * 2 + d < 10 := by omega
  have hck := ck_in hsl (by decide)
  have hcc := ck_in hlc (by decide)
  have hcl : c * 10 + a * 2 + d < 40 := by omega
  have hck2 := ck_in hcl (by decide)
  have esl : nI c * (10 : Int32) + nI a * (2 : Int32) + nI d = nI (c * 10 + a * 2 + d) := by
    rw [show (10 : Int32) = nI 10 from rfl, show (2 : Int32) = nI 2 from rfl, pk_mul, pk_mul, nI_add, nI_add]
  simp only [if_neg c1, if_pos c2, if_neg hcc, f_slot, bd2_s, esl, if_neg hck, if_neg hck2, let_s]
  obtain ⟨mk, nb, pt, fi, se, st, hd, sp, ha, ld, hb, hs⟩ := h
  obtain ⟨hr1, hr2⟩ := i32_rng (a := -99) (b := 99) (by decide) (by decide) c1 c2
  rw [nI_clamp (show c < 2 ^ 31 by omega), nI_clamp (show a * 2 + d < 2 ^ 31 by omega), nI_clamp (show c * 10 + a * 2 + d < 2 ^ 31 by omega)]
  obtain ⟨b1, b2, b3, b4, b5, b6, b7, b8⟩ := hb
  have e1 : ∀ k, k < 28 → ∀ f, (s_I z1 (c + 28) f).2.2.1 k = z1.2.2.1 k := fun k hk f => by
    show va_up z1.2.2.1 (c + 28) f k = _
    rw [va_up_ne _ _ (show k ≠ c + 28 by omega)]
  refine ⟨0, _, _, rfl, rfl, mk, nb, pt, fi, se, st, hd, sp, ha, fun x q => if x = c ∧ q = a * 2 + d then p4.toInt else ld x q, ⟨b1, b2, ?_, ?_, ?_, ?_, ?_, fun x hx q hq => ?_⟩, ?_⟩
  · rw [e1 5 (by decide)]; exact b3
  · rw [e1 6 (by decide), e1 7 (by decide), e1 8 (by decide)]; exact b4
  · rw [e1 9 (by decide)]; exact b5
  · rw [e1 10 (by decide)]; exact b6
  · rw [e1 11 (by decide)]; exact b7
  · show va_up z1.2.2.1 (c + 28) (upd (z1.2.2.1 (c + 28)) (a * 2 + d) p4) (x + 28) q = iI (if x = c ∧ q = a * 2 + d then p4.toInt else ld x q) ∧ upd (z2.2.2.1 10) (c * 10 + a * 2 + d) p4 (10 * x + q) = iI (if x = c ∧ q = a * 2 + d then p4.toInt else ld x q) ∧ -99 ≤ (if x = c ∧ q = a * 2 + d then p4.toInt else ld x q) ∧ (if x = c ∧ q = a * 2 + d then p4.toInt else ld x q) ≤ 99
    have hold := b8 x hx q hq
    by_cases e : x = c ∧ q = a * 2 + d
    · rw [if_pos e, e.1, e.2, va_up_self, pk_us, show 10 * c + (a * 2 + d) = c * 10 + a * 2 + d by omega, pk_us]
      exact ⟨iI_of p4, iI_of p4, hr1, hr2⟩
    · rw [if_neg e, pk_un (show 10 * x + q ≠ c * 10 + a * 2 + d by omega)]
      refine ⟨?_, hold.2⟩
      by_cases e2 : x = c
      · rw [e2, va_up_self, pk_un (show q ≠ a * 2 + d from fun e3 => e ⟨e2, e3⟩)]
        rw [e2] at hold
        exact hold.1
      · rw [va_up_ne _ _ (show x + 28 ≠ c + 28 by omega)]
        exact hold.1
  · rcases hs with ⟨s1, s2⟩ | ⟨s1, s2, s3⟩
    · exact Or.inl ⟨s1, s2⟩
    · exact Or.inr ⟨s1, s2, hSK _ _ _ _ _ _ _ _ _ _ _ s3⟩
