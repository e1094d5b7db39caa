/-! The reference's order: candidate -/
def ofr (fi se : Nat → Nat) (nb : Nat) (x1 : Int32) (m : Nat) : Prop := (x1 = -1 ∧ m = 31) ∨ ∃ o, o < 5 ∧ x1 = nI o ∧ m = nbS fi se nb o
theorem ljr5 : ljr 5 = -1 := rfl
theorem nb_lt {fi se : Nat → Nat} {nb : Nat} (h : ∀ i, i < nb → fi i < 5 ∧ se i < 5 ∧ fi i ≠ se i) {a : Nat} (ha : a < 5) : nbS fi se nb a < 32 := (nb_bit ha (b := 0) (by decide) nb h).1
theorem nb_self {fi se : Nat → Nat} {nb : Nat} (h : ∀ i, i < nb → fi i < 5 ∧ se i < 5 ∧ fi i ≠ se i) {a : Nat} (ha : a < 5) : bt5 (nbS fi se nb a) a = 0 := by
  rcases (nb_bit ha ha nb h).2 with ⟨_, i, hi, hj⟩ | ⟨e, _⟩
  · obtain ⟨_, _, h3⟩ := h i hi
    rcases hj with ⟨r1, r2⟩ | ⟨r1, r2⟩
    · exact absurd (r1.trans r2.symm) h3
    · exact absurd (r1.trans r2.symm) h3
  · exact e
theorem lp_cand {z : gS} {s : oS} {nb mk m : Nat} {fi se : Nat → Nat} {x1 : Int32} (hz : rbars z nb fi se) (h : rrel z s) (hm : mk < 32) (ht : b_th (z.2.2.1 1) mk) (ho : ofr fi se nb x1 m) : ∀ (g f n best few : Nat), n + g = 5 → g < f → ((best = 5 ∧ few = 5) ∨ (best < 5 ∧ few = pcb (nbS fi se nb best))) → l_M_candidate_4 f z x1 (ljr best) (nI n) = some (ljr (lj (nbS fi se nb) (nmk (mk &&& m) s.2.2) g best few n), z)
  | 0, f + 1, n, best, few, h1, h2, h3 => by
    have : n = 5 := by omega
    subst this
    rw [l_M_candidate_4, if_pos (by decide)]
    rfl
  | g + 1, f + 1, n, best, few, h1, h2, h3 => by
    have hn : n < 5 := by omega
    have ck := ck_in hn (by decide)
    have hb : ∀ i, i < nb → fi i < 5 ∧ se i < 5 ∧ fi i ≠ se i := fun i hi => (hz.2.2 i hi).2.2
    have hm2 : m < 32 := by
      rcases ho with ⟨_, e⟩ | ⟨o, o1, _, e⟩
      · omega
      · rw [e]; exact nb_lt hb o1
    obtain ⟨a1, a2⟩ := bt_and mk hm m hm2
    have hbt := bt_nmk (mk &&& m) a1 s.2.2 h.2.2.1 n hn
    rw [a2 n hn] at hbt
    have next := lp_cand hz h hm ht ho g f (n + 1) best few (by omega) (by omega) h3
    have take : l_M_candidate_4 f z x1 (nI n) (nI (n + 1)) = some (ljr (lj (nbS fi se nb) (nmk (mk &&& m) s.2.2) g n (pcb (nbS fi se nb n)) (n + 1)), z) := by
      have := lp_cand hz h hm ht ho g f (n + 1) n (pcb (nbS fi se nb n)) (by omega) (by omega) (Or.inr ⟨hn, rfl⟩)
      rw [ljr_lt hn] at this
      exact this
    show _ = some (ljr (if bt5 (nmk (mk &&& m) s.2.2) n = 0 then lj (nbS fi se nb) (nmk (mk &&& m) s.2.2) g best few (n + 1) else if few ≤ pcb (nbS fi se nb n) then lj (nbS fi se nb) (nmk (mk &&& m) s.2.2) g best few (n + 1) else lj (nbS fi se nb) (nmk (mk &&& m) s.2.2) g n (pcb (nbS fi se nb n)) (n + 1)), z)
    rw [l_M_candidate_4, if_neg (show ¬ (5 : Int32) ≤ nI n from nI_ge (b := 5) hn (by decide)), if_neg ck, nI_clamp (show n < 2 ^ 31 by omega), ht n hn, f_inO h hn, bd2_s]
    simp only [nI_1, next, take]
    have hmk : mk / 2 ^ n % 2 = bt5 mk n := rfl
    rw [hmk]
    rcases bt5_01 mk n with e1 | e1
    · rw [e1, if_pos (show nI 0 = 0 from rfl)]
      have z0 : bt5 (nmk (mk &&& m) s.2.2) n = 0 := by rw [hbt, e1]; simp
      rw [if_pos z0]
    rw [e1, if_neg (show ¬ nI 1 = 0 by decide)]
    rcases bt5_01 s.2.2 n with e2 | e2
    case inr =>
      rw [e2, if_neg (show ¬ nI 1 = 0 by decide)]
      have z0 : bt5 (nmk (mk &&& m) s.2.2) n = 0 := by rw [hbt, e2]; rfl
      rw [if_pos z0]
    rw [e2, if_pos (show nI 0 = 0 from rfl)]
    rw [e1, e2] at hbt
    -- what happens where n may come
    have dec : (if ljr best < 0 then some (ljr (lj (nbS fi se nb) (nmk (mk &&& m) s.2.2) g n (pcb (nbS fi se nb n)) (n + 1)), z) else bd2 (f_M_neighbours z (nI n)) (fun r15 w14 => bd2 (f_M_neighbours w14 (ljr best)) (fun r18 w17 => if r18 ≤ r15 then l_M_candidate_4 f w17 x1 (ljr best) (nI (n + 1)) else l_M_candidate_4 f w17 x1 (nI n) (nI (n + 1))))) = some (ljr (if few ≤ pcb (nbS fi se nb n) then lj (nbS fi se nb) (nmk (mk &&& m) s.2.2) g best few (n + 1) else lj (nbS fi se nb) (nmk (mk &&& m) s.2.2) g n (pcb (nbS fi se nb n)) (n + 1)), z) := by
      have hp5 := pcb_self _ (nb_lt hb hn) n hn (nb_self hb hn)
      rcases h3 with ⟨q1, q2⟩ | ⟨q1, q2⟩
      · subst q1
        rw [ljr5, if_pos (by decide), if_neg (by omega)]
      · rw [ljr_lt q1, if_neg (nI_pos (by omega)), f_nbs hz hn, bd2_s, f_nbs hz q1, bd2_s, ← q2]
        rw [ljr_lt q1] at next
        have hf5 := pcb_le (nbS fi se nb best)
        by_cases c : few ≤ pcb (nbS fi se nb n)
        · rw [if_pos c, if_pos (nI_le c (by omega)), next]
        · rw [if_neg c, if_neg (nI_ge (by omega) (by omega)), take]
    rcases ho with ⟨rfl, e⟩ | ⟨o, o1, rfl, e⟩
    · have z1 : ¬ bt5 (nmk (mk &&& m) s.2.2) n = 0 := by
        rw [hbt, e]
        have : bt5 31 n = 1 := by
          have : ∀ n, n < 5 → bt5 31 n = 1 := by decide
          exact this n hn
        rw [this]
        decide
      rw [if_neg z1, if_pos (show (-1 : Int32) < 0 by decide)]
      exact dec
    · rw [if_neg (nI_pos (show o < 2 ^ 31 by omega)), f_joined hz o1 hn, bd2_s]
      rcases bt5_01 (nbS fi se nb o) n with e3 | e3
      · rw [e3, if_pos (show nI 0 = 0 from rfl)]
        have z0 : bt5 (nmk (mk &&& m) s.2.2) n = 0 := by rw [hbt, e, e3]; rfl
        rw [if_pos z0, next]
      · rw [e3, if_neg (show ¬ nI 1 = 0 by decide)]
        have z1 : ¬ bt5 (nmk (mk &&& m) s.2.2) n = 0 := by
          rw [hbt, e, e3]
          decide
        rw [if_neg z1, ← dec, take]
theorem f_cand {z : gS} {s : oS} {nb mk m : Nat} {fi se : Nat → Nat} {x1 : Int32} (hz : rbars z nb fi se) (h : rrel z s) (hm : mk < 32) (ht : b_th (z.2.2.1 1) mk) (ho : ofr fi se nb x1 m) : f_M_candidate z x1 = some (ljr (lj (nbS fi se nb) (nmk (mk &&& m) s.2.2) 5 5 5 0), z) := by
  unfold f_M_candidate
  have q := lp_cand hz h hm ht ho 5 200 0 5 5 rfl (by decide) (Or.inl ⟨rfl, rfl⟩)
  have q' : l_M_candidate_4 200 z x1 (-1) 0 = some (ljr (lj (nbS fi se nb) (nmk (mk &&& m) s.2.2) 5 5 5 0), z) := q
  rw [q', bd2_s]
