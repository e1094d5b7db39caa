/-! The order and the numbers of the unknowns, made by both -/
def oR (fi se : Nat → Nat) (nb mk : Nat) : oS := (rrun (nbS fi se nb) mk 20 0 o0).getD o0
def ndR (fi se : Nat → Nat) (nb mk : Nat) (i : Nat) : Nat := (oR fi se nb mk).2.1 ((oR fi se nb mk).1 - 1 - i)
/-- how many unknowns, and the slot of each -/
def nU (fi se hd : Nat → Nat) (nb mk : Nat) : Nat := (uS (ndR fi se nb mk) hd (2 * (oR fi se nb mk).1)).1
def uU (fi se hd : Nat → Nat) (nb mk : Nat) : Nat → Nat := (uS (ndR fi se nb mk) hd (2 * (oR fi se nb mk).1)).2
theorem f_mo {z : gS} {nb mk : Nat} {fi se hd : Nat → Nat} (hz : rbars z nb fi se) (hk : mk < 32) (ht : b_th (z.2.2.1 1) mk) (h7 : ∀ d, d < 10 → z.2.2.1 7 d = nI (hd d) ∧ hd d ≤ 1) : ∃ z', f_M_makeOrder z = some z' ∧ fr [2, 3] [] [11, 12] [] z' z ∧ (oR fi se nb mk).1 ≤ 5 ∧ ((oR fi se nb mk).1 = 0 ↔ mk = 0) ∧ z'.1 2 = nI (oR fi se nb mk).1 ∧ (∀ i, i < (oR fi se nb mk).1 → z'.2.2.1 11 i = nI (ndR fi se nb mk i) ∧ ndR fi se nb mk i < 5) ∧ z'.1 3 = nI (nU fi se hd nb mk) ∧ ∀ i, i < nU fi se hd nb mk → z'.2.2.1 12 i = nI (uU fi se hd nb mk i) := by
  have hb : ∀ i, i < nb → fi i < 5 ∧ se i < 5 ∧ fi i ≠ se i := fun i hi => (hz.2.2 i hi).2.2
  obtain ⟨s, a1, a2, a3⟩ := rr_all (nbS_32 hb) (fun k h => pcb_self _ (nb_lt hb h) k h (nb_self hb h)) hk
  have eR : oR fi se nb mk = s := by unfold oR; rw [a1]; rfl
  have eN : ∀ i, ndR fi se nb mk i = s.2.1 (s.1 - 1 - i) := fun i => by unfold ndR; rw [eR]
  unfold f_M_makeOrder
  rw [let_s]
  obtain ⟨z1, b1, b2, b3⟩ := lp_mo hk 20 200 0 0 (s_i z 2 0) o0 s ⟨hz.1, by rw [si_ne _ _ (by decide)]; exact hz.2.1, fun i hi => hz.2.2 i hi⟩ ⟨by rw [si_self]; rfl, by decide, by decide, fun i hi => absurd hi (Nat.not_lt_zero i), fun n _ => Or.inr ⟨by show bt5 0 n = 0; unfold bt5; simp, fun ⟨i, hi, _⟩ => absurd hi (Nat.not_lt_zero i)⟩⟩ ht rfl (by decide) (Nat.le_refl 0) a1
  have b1' : l_M_makeOrder_9 200 (s_i z 2 0) 0 0 = some z1 := b1
  have f1 := fr_tr (fr_w (fr_rs b3) (a' := [2, 3]) (b' := []) (c' := [11, 12]) (d' := []) (by decide) (by decide) (by decide) (by decide)) (fr_i z (0 : Int32) (by decide))
  rw [b1', bd1_s]
  have h5 : s.1 ≤ 5 := b2.2.1
  obtain ⟨z2, c1, c2, c3⟩ := lp_mrev (a := s.2.1) h5 (s.1 / 2) 200 0 z1 (by omega) (by omega) b2.1 (fun k hk => by rw [if_neg (by omega)]; exact (b2.2.2.2.1 k hk).1)
  have c1' : l_M_makeOrder_61 200 z1 0 = some z2 := c1
  rw [c1', bd1_s, let_s]
  have f2 := fr_tr (fr_w c2 (a' := [2, 3]) (b' := []) (c' := [11, 12]) (d' := []) (by decide) (by decide) (by decide) (by decide)) f1
  have n5 : ∀ i, i < s.1 → ndR fi se nb mk i < 5 := fun i hi => by rw [eN]; exact (b2.2.2.2.1 _ (by omega)).2
  obtain ⟨z3, d1, d2, d3, d4⟩ := lp_munk (nd := ndR fi se nb mk) (hd := hd) h5 n5 (2 * s.1) 200 0 (s_i z2 3 0) (by omega) (by omega) (by rw [si_ne _ _ (by decide), c2.1 2 (by decide)]; exact b2.1) (fun i hi => by rw [si_2, c3 i hi, eN]) (fun d hd => by rw [si_2, f2.2.2.1 7 (by decide)]; exact h7 d hd) (by rw [si_self]; rfl) (fun i hi => absurd hi (Nat.not_lt_zero i))
  have d1' : l_M_makeOrder_124 200 (s_i z2 3 0) 0 = some z3 := d1
  rw [d1', bd1_s]
  have f3 := fr_tr (fr_w d2 (a' := [2, 3]) (b' := []) (c' := [11, 12]) (d' := []) (by decide) (by decide) (by decide) (by decide)) (fr_tr (fr_i z2 (0 : Int32) (by decide)) f2)
  unfold nU uU
  rw [eR]
  refine ⟨z3, rfl, f3, h5, a3, ?_, fun i hi => ⟨?_, n5 i hi⟩, d3, d4⟩
  · rw [d2.1 2 (by decide), si_ne _ _ (by decide), c2.1 2 (by decide)]
    exact b2.1
  · rw [d2.2.2.1 11 (by decide), si_2, c3 i hi, eN]
theorem pcb_1 : ∀ mk, mk < 32 → mk ≠ 0 → 1 ≤ pcb mk := by decide +kernel
/-- what is sure of the order where all bars join nodes that are there -/
def ordF (fi se : Nat → Nat) (nb mk : Nat) : Prop := (oR fi se nb mk).1 = pcb mk ∧ (∀ i, i < pcb mk → ndR fi se nb mk i < 5) ∧ (∀ i, i < pcb mk → ∀ j, j < i → ndR fi se nb mk i ≠ ndR fi se nb mk j) ∧ ∀ n, n < 5 → bt5 mk n = 1 → ∃ i, i < pcb mk ∧ ndR fi se nb mk i = n
theorem ord_F {fi se : Nat → Nat} {nb mk : Nat} (h : ∀ i, i < nb → fi i < 5 ∧ se i < 5 ∧ fi i ≠ se i) (hg : ∀ i, i < nb → bt5 mk (fi i) = 1 ∧ bt5 mk (se i) = 1) (hk : mk < 32) : ordF fi se nb mk ∧ ∃ t, prun (nbS fi se nb) mk (pcb mk) 0 o0 = some t ∧ t.1 = pcb mk ∧ ∀ i, i < pcb mk → t.2.1 (pcb mk - 1 - i) = ndR fi se nb mk i := by
  obtain ⟨s, t, a1, a2, a3, a4, a5, a6⟩ := ord_in h hg hk
  have eR : oR fi se nb mk = s := by unfold oR; rw [a1]; rfl
  have eN : ∀ i, ndR fi se nb mk i = s.2.1 (pcb mk - 1 - i) := fun i => by unfold ndR; rw [eR, a3]
  refine ⟨⟨by rw [eR, a3], fun i hi => by rw [eN]; exact (a5 _ (by omega)).2.1, fun i hi j hj => ?_, fun n hn hb => ?_⟩, t, a2, a4, fun i hi => ?_⟩
  · rw [eN, eN]
    exact fun e => (a5 (pcb mk - 1 - j) (by omega)).2.2 (pcb mk - 1 - i) (by omega) e.symm
  · obtain ⟨i, i1, i2⟩ := a6 n hn hb
    exact ⟨pcb mk - 1 - i, by omega, by rw [eN, show pcb mk - 1 - (pcb mk - 1 - i) = i by omega]; exact i2⟩
  · rw [eN]
    exact (a5 _ (by omega)).1
theorem f_mk {z : gS} {nb mk : Nat} {fi se hd : Nat → Nat} (hnb : nb ≤ 10) (h2 : z.1 2 = nI nb) (h1 : z.1 1 = nI mk) (hk : mk < 32) (h0 : mk ≠ 0) (h4 : ∀ i, i < nb → z.2.2.1 6 i = nI (fi i) ∧ z.2.2.1 7 i = nI (se i) ∧ fi i < 5 ∧ se i < 5 ∧ fi i ≠ se i) (hg : ∀ i, i < nb → bt5 mk (fi i) = 1 ∧ bt5 mk (se i) = 1) (h9 : ∀ d, d < 10 → z.2.2.1 9 d = nI (hd d) ∧ hd d ≤ 1) : ∃ z', f_N_make_1 z = some z' ∧ fr [3, 4, 5] [] [12, 13, 14, 15] [] z' z ∧ z'.1 3 = nI (pcb mk) ∧ (∀ i, i < pcb mk → z'.2.2.1 12 i = nI (ndR fi se nb mk i)) ∧ NS (ndR fi se nb mk) hd (2 * pcb mk) z' := by
  obtain ⟨⟨o1, o2, o3, o4⟩, t, p1, p2, p3⟩ := ord_F (fun i hi => (h4 i hi).2.2) hg hk
  have hp5 := pcb_le mk
  have hp1 := pcb_1 mk hk h0
  unfold f_N_make_1
  obtain ⟨z1, a1, a2, a3⟩ := f_fn hnb h2 h4
  have f1 := fr_w (fr_ns a2) (a' := [3, 4, 5]) (b' := []) (c' := [12, 13, 14, 15]) (d' := []) (by decide) (by decide) (by decide) (by decide)
  rw [a1, bd1_s]
  obtain ⟨z2, b1, b2, b3⟩ := lp_place (nb := nbS fi se nb) hk (pcb mk) 200 0 (s_i (s_i z1 3 0) 4 0) o0 t ⟨by rw [si_ne _ _ (by decide), si_self]; rfl, by decide, by rw [si_self]; rfl, by decide, fun i hi => absurd hi (Nat.not_lt_zero i)⟩ (by rw [si_ne _ _ (by decide), si_ne _ _ (by decide), f1.1 1 (by decide)]; exact h1) a3 (by omega) (by omega) p1
  rw [Nat.zero_add] at b1
  have b1' : l_N_placeNodes_1_17 200 (s_i (s_i z1 3 0) 4 0) (nI (pcb mk)) 0 = some z2 := b1
  have hpl : f_N_placeNodes_1 z1 = some z2 := by
    unfold f_N_placeNodes_1 f_T_nodeCount
    rw [let_s, let_s, show (s_i (s_i z1 3 0) 4 0).1 1 = nI mk by rw [si_ne _ _ (by decide), si_ne _ _ (by decide), f1.1 1 (by decide)]; exact h1, f_bits _ hk, bd2_s, bd2_s, b1', bd1_s]
  rw [hpl, bd1_s]
  have f2 := fr_tr (fr_w (fr_os b3) (a' := [3, 4, 5]) (b' := []) (c' := [12, 13, 14, 15]) (d' := []) (by decide) (by decide) (by decide) (by decide)) (fr_tr (fr_i _ (0 : Int32) (by decide)) (fr_tr (fr_i _ (0 : Int32) (by decide)) f1))
  have e3 : z2.1 3 = nI (pcb mk) := by rw [b2.1, p2]
  obtain ⟨z3, c1, c2, c3⟩ := f_turn (a := t.2.1) hp1 hp5 e3 (fun k hk => (b2.2.2.2.2 k (by rw [p2]; exact hk)).1)
  rw [c1, bd1_s]
  have f3 := fr_tr (fr_w c2 (a' := [3, 4, 5]) (b' := []) (c' := [12, 13, 14, 15]) (d' := []) (by decide) (by decide) (by decide) (by decide)) f2
  have e12 : ∀ i, i < pcb mk → z3.2.2.1 12 i = nI (ndR fi se nb mk i) := fun i hi => by rw [c3 i hi, p3 i hi]
  have e33 : z3.1 3 = nI (pcb mk) := by rw [c2.1 3 (by decide)]; exact e3
  obtain ⟨z4, d1, d2, d3⟩ := f_cnum (hd := hd) hp5 o2 o3 e33 e12 (fun d hd => by rw [f3.2.2.1 9 (by decide)]; exact h9 d hd)
  rw [d1, bd1_s]
  have f4 := fr_tr (fr_w d2 (a' := [3, 4, 5]) (b' := []) (c' := [12, 13, 14, 15]) (d' := []) (by decide) (by decide) (by decide) (by decide)) f3
  exact ⟨z4, rfl, f4, by rw [d2.1 3 (by decide)]; exact e33, fun i hi => by rw [d2.2.2.1 12 (by decide)]; exact e12 i hi, d3⟩
