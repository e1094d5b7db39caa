/-! node -/
theorem bit_th : ∀ mk, mk < 32 → ∀ n, n < 5 → (nI mk >>> (nI n &&& 31)) &&& 1 = nI (mk / 2 ^ n % 2) := by decide +kernel
theorem bit_or : ∀ mk, mk < 32 → ∀ n, n < 5 → nI mk ||| ((1 : Int32) <<< (nI n &&& 31)) = nI (mk ||| 2 ^ n) ∧ mk ||| 2 ^ n < 32 := by decide +kernel
theorem bit_get : ∀ mk, mk < 32 → ∀ n, n < 5 → ∀ k, k < 5 → (mk ||| 2 ^ n) / 2 ^ k % 2 = if k = n then 1 else mk / 2 ^ k % 2 := by decide +kernel
theorem f_slot0 (z : gS) (a : Nat) : f_S_slotOf z (nI a) 0 = some (nI (a * 2), z) := f_slot z a 0
theorem f_slot1 (z : gS) (a : Nat) : f_S_slotOf z (nI a) 1 = some (nI (a * 2 + 1), z) := f_slot z a 1
theorem f_there {z : gS} {mk : Nat} (hz : z.1 1 = nI mk) (hm : mk < 32) {n : Nat} (hn : n < 5) : f_T_isThere z (nI n) = some (nI (mk / 2 ^ n % 2), z) := by
  unfold f_T_isThere
  rw [hz, bit_th mk hm n hn]
  have h2 : mk / 2 ^ n % 2 = 0 ∨ mk / 2 ^ n % 2 = 1 := by omega
  rcases h2 with e | e
  · rw [e, if_pos (show nI 0 = 0 from rfl)]; rfl
  · rw [e, if_neg (by decide)]; rfl
theorem lp_node {z1 z2 : gS} {mk : Nat} {pt : Nat → Nat} (hm : mk < 32) (h1 : z1.1 1 = nI mk) (h2 : b_th (z2.2.2.1 1) mk) (h3 : b_pt (z1.2.2.1 5) (z2.2.2.1 2) (z2.2.2.1 3) pt) (n : Nat) (x y : Int32) (hn : n < 5) : ∀ (f j : Nat), j ≤ 5 → 5 < j + f → ∃ e, l_T_hasOtherAt_3 f z1 (nI n) x y (nI j) = some (e, z1) ∧ l_M_node_42 f z2 (nI n) x y (nI j) = some (e, nI n, x, y, z2) ∧ (e = 0 ∨ e = 1)
  | 0, j, hj, hf => absurd hf (by omega)
  | f + 1, j, hj, hf => by
    rw [l_T_hasOtherAt_3, l_M_node_42]
    by_cases e5 : j = 5
    · subst e5
      rw [if_pos (by decide), if_pos (by decide)]
      exact ⟨1, rfl, rfl, Or.inr rfl⟩
    have hj5 : j < 5 := by omega
    obtain ⟨e, i1, i2, i3⟩ := lp_node hm h1 h2 h3 n x y hn f (j + 1) (by omega) (by omega)
    have c5 : ¬ (5 : Int32) ≤ nI j := nI_ge (b := 5) hj5 (by decide)
    by_cases ejn : nI j = nI n
    · simp only [if_neg c5, if_pos ejn, nI_1]
      exact ⟨e, i1, i2, i3⟩
    have ck := ck_in hj5 (by decide)
    have ck0 := ck_in (show j * 2 < 10 by omega) (by decide)
    have ck1 := ck_in (show j * 2 + 1 < 10 by omega) (by decide)
    have hb := h2 j hj5
    obtain ⟨p1, p2, p3, p4, -, -⟩ := h3 j hj5
    simp only [if_neg c5, if_neg ejn, f_there h1 hm hj5, f_slot0, f_slot1, bd2_s, if_neg ck, if_neg ck0, if_neg ck1]
    simp only [nI_clamp (show j < 2 ^ 31 by omega), nI_clamp (show j * 2 < 2 ^ 31 by omega), nI_clamp (show j * 2 + 1 < 2 ^ 31 by omega), hb]
    have hv : mk / 2 ^ j % 2 = 0 ∨ mk / 2 ^ j % 2 = 1 := by omega
    rcases hv with hv | hv
    · simp only [hv, nI_0, if_true, nI_1]
      exact ⟨e, i1, i2, i3⟩
    · have hv0 : ¬ nI 1 = 0 := by decide
      simp only [hv, if_neg hv0, p3, p4, nI_1]
      rw [Nat.mul_comm j 2, p1, p2]
      by_cases q1 : nI (pt (2 * j)) = x
      · by_cases q2 : nI (pt (2 * j + 1)) = y
        · simp only [if_pos q1, if_pos q2]
          exact ⟨0, rfl, rfl, Or.inl rfl⟩
        · simp only [if_pos q1, if_neg q2]
          exact ⟨e, i1, i2, i3⟩
      · simp only [if_neg q1]
        exact ⟨e, i1, i2, i3⟩
theorem ok_node {SK : skT} {z1 z2 : gS} {p1 p2 p3 : Int32} (h : iv SK z1 z2) : ∃ r w1 w2, f_S_node z1 p1 p2 p3 = some (r, w1) ∧ f_M_node z2 p1 p2 p3 = some (r, w2) ∧ iv SK w1 w2 := by
  unfold f_S_node f_M_node
  rcases gd_node p1 with ⟨n1, n2⟩ | ⟨n, hn, rfl, n1, n2⟩
  · rw [n1, n2]
    exact ⟨-1, z1, z2, rfl, rfl, h⟩
  rcases gd_grid p2 with ⟨d1, d2⟩ | ⟨x, hx, rfl, d1, d2⟩
  · simp only [n1, n2, d1, d2, bd2_s, if_neg c_one, if_true]
    exact ⟨-1, z1, z2, rfl, rfl, h⟩
  rcases gd_grid p3 with ⟨g1, g2⟩ | ⟨y, hy, rfl, g1, g2⟩
  · simp only [n1, n2, d1, d2, g1, g2, bd2_s, if_neg c_one, if_true]
    exact ⟨-1, z1, z2, rfl, rfl, h⟩
  simp only [n1, n2, d1, d2, g1, g2, bd2_s, if_neg c_one, if_true]
  obtain ⟨mk, nb, pt, fi, se, st, hd, sp, ha, ld, hb, hs⟩ := id h
  rcases hs with ⟨s1, s2⟩ | ⟨s1, s2, s3⟩
  case inr =>
    simp only [s1, s2, if_neg c_one]
    exact ⟨-4, z1, z2, rfl, rfl, h⟩
  obtain ⟨⟨m1, m2, m3, m4, m5⟩, b2, b3, b4, b5, b6, b7, b8⟩ := hb
  obtain ⟨e, i1, i2, i3⟩ := lp_node m1 m3 b2 b3 n (nI x) (nI y) hn 200 0 (by decide) (by decide)
  unfold f_T_hasOtherAt
  have i1' : l_T_hasOtherAt_3 200 z1 (nI n) (nI x) (nI y) 0 = some (e, z1) := i1
  have i2' : l_M_node_42 200 z2 (nI n) (nI x) (nI y) 0 = some (e, nI n, nI x, nI y, z2) := i2
  simp only [s1, s2, if_true, i1', i2', bd2_s, bd5_s]
  rcases i3 with rfl | rfl
  · simp only [if_true, bd2_s, if_neg c_one]
    exact ⟨-2, z1, z2, rfl, rfl, h⟩
  have c10 : ¬ (1 : Nat) = 0 := by decide
  have ck := ck_in hn (by decide)
  have ck0 := ck_in (show n * 2 < 10 by omega) (by decide)
  have ck1 := ck_in (show n * 2 + 1 < 10 by omega) (by decide)
  unfold f_T_putNode
  obtain ⟨o1, o2⟩ := bit_or mk m1 n hn
  simp only [if_neg c10, bd2_s, if_true, if_neg ck, let_s, m3, o1, f_slot0, f_slot1, if_neg ck0, if_neg ck1, bd1_s]
  simp only [nI_clamp (show n < 2 ^ 31 by omega), nI_clamp (show n * 2 < 2 ^ 31 by omega), nI_clamp (show n * 2 + 1 < 2 ^ 31 by omega)]
  have ev : vp_nar .boolean (1 : Int32) = nI 1 := rfl
  refine ⟨0, _, _, rfl, rfl, mk ||| 2 ^ n, nb, fun q => if q = 2 * n then x else if q = 2 * n + 1 then y else pt q, fi, se, st, hd, sp, ha, ld, ⟨⟨o2, m2, ?_, ?_, ?_⟩, fun k hk => ?_, fun k hk => ?_, ?_, ?_, ?_, ?_, fun c hc q hq => ?_⟩, Or.inl ⟨?_, ?_⟩⟩
  · rw [sI_1, sI_1, si_self]
  · rw [sI_1, sI_1, si_ne _ _ (by decide)]; exact m4
  · rw [sI_1, sI_1, sI_1]; exact m5
  · rw [sI_ne _ _ (by decide), sI_ne _ _ (by decide), sI_self, bit_get mk m1 n hn k hk, ev]
    by_cases q : k = n
    · rw [if_pos q, q, pk_us]
    · rw [if_neg q, pk_un q]; exact b2 k hk
  · obtain ⟨q1, q2, q3, q4, q5, q6⟩ := b3 k hk
    have e1 : ∀ a, (s_I (s_I (s_i z1 1 (nI (mk ||| 2 ^ n))) 5 (upd ((s_i z1 1 (nI (mk ||| 2 ^ n))).2.2.1 5) (n * 2) (nI x))) 5 (upd ((s_I (s_i z1 1 (nI (mk ||| 2 ^ n))) 5 (upd ((s_i z1 1 (nI (mk ||| 2 ^ n))).2.2.1 5) (n * 2) (nI x))).2.2.1 5) (n * 2 + 1) (nI y))).2.2.1 5 a = if a = 2 * n + 1 then nI y else if a = 2 * n then nI x else z1.2.2.1 5 a := fun a => by
      rw [sI_self, sI_self]
      by_cases r1 : a = n * 2 + 1
      · rw [r1, pk_us, if_pos (by omega)]
      · rw [pk_un r1, if_neg (by omega)]
        by_cases r2 : a = n * 2
        · rw [r2, pk_us, if_pos (by omega)]
        · rw [pk_un r2, if_neg (by omega)]
          rfl
    have e2 : (s_I (s_I (s_I z2 1 (upd (z2.2.2.1 1) n (vp_nar .boolean (1 : Int32)))) 2 (upd ((s_I z2 1 (upd (z2.2.2.1 1) n (vp_nar .boolean (1 : Int32)))).2.2.1 2) n (nI x))) 3 (upd ((s_I (s_I z2 1 (upd (z2.2.2.1 1) n (vp_nar .boolean (1 : Int32)))) 2 (upd ((s_I z2 1 (upd (z2.2.2.1 1) n (vp_nar .boolean (1 : Int32)))).2.2.1 2) n (nI x))).2.2.1 3) n (nI y))).2.2.1 2 k = if k = n then nI x else z2.2.2.1 2 k := by
      rw [sI_ne _ _ (by decide), sI_self, sI_ne _ _ (by decide)]
      by_cases r : k = n
      · rw [r, pk_us, if_pos rfl]
      · rw [pk_un r, if_neg r]
    have e3 : (s_I (s_I (s_I z2 1 (upd (z2.2.2.1 1) n (vp_nar .boolean (1 : Int32)))) 2 (upd ((s_I z2 1 (upd (z2.2.2.1 1) n (vp_nar .boolean (1 : Int32)))).2.2.1 2) n (nI x))) 3 (upd ((s_I (s_I z2 1 (upd (z2.2.2.1 1) n (vp_nar .boolean (1 : Int32)))) 2 (upd ((s_I z2 1 (upd (z2.2.2.1 1) n (vp_nar .boolean (1 : Int32)))).2.2.1 2) n (nI x))).2.2.1 3) n (nI y))).2.2.1 3 k = if k = n then nI y else z2.2.2.1 3 k := by
      rw [sI_self, sI_ne _ _ (by decide), sI_ne _ _ (by decide)]
      by_cases r : k = n
      · rw [r, pk_us, if_pos rfl]
      · rw [pk_un r, if_neg r]
    rw [e1, e1, e2, e3]
    by_cases r : k = n
    · subst r
      have t1 : ¬ 2 * k = 2 * k + 1 := by omega
      have t2 : ¬ 2 * k + 1 = 2 * k := by omega
      simp only [t1, t2, if_true, if_false]
      exact ⟨trivial, trivial, trivial, trivial, hx, hy⟩
    · have t1 : ¬ 2 * k = 2 * n + 1 := by omega
      have t2 : ¬ 2 * k = 2 * n := by omega
      have t3 : ¬ 2 * k + 1 = 2 * n + 1 := by omega
      have t4 : ¬ 2 * k + 1 = 2 * n := by omega
      simp only [t1, t2, t3, t4, r, if_false]
      exact ⟨q1, q2, q3, q4, q5, q6⟩
  · rw [sI_ne _ _ (by decide), sI_ne _ _ (by decide), sI_ne _ _ (by decide), sI_ne _ _ (by decide), sI_ne _ _ (by decide), sI_ne _ _ (by decide)]
    exact b4
  · exact b5
  · exact b6
  · exact b7
  · rw [sI_ne _ _ (show c + 28 ≠ 5 by omega), sI_ne _ _ (show c + 28 ≠ 5 by omega)]
    exact b8 c hc q hq
  · rw [sI_1, sI_1, si_ne _ _ (by decide)]; exact s1
  · exact s2
