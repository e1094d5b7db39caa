/-! Both orders are alike: all graphs on five nodes -/
def nbg (g n : Nat) : Nat := match n with
  | 0 => bt5 g 0 * 2 + bt5 g 1 * 4 + bt5 g 2 * 8 + bt5 g 3 * 16
  | 1 => bt5 g 0 + bt5 g 4 * 4 + bt5 g 5 * 8 + bt5 g 6 * 16
  | 2 => bt5 g 1 + bt5 g 4 * 2 + bt5 g 7 * 8 + bt5 g 8 * 16
  | 3 => bt5 g 2 + bt5 g 5 * 2 + bt5 g 7 * 4 + bt5 g 9 * 16
  | 4 => bt5 g 3 + bt5 g 6 * 2 + bt5 g 8 * 4 + bt5 g 9 * 8
  | _ => 0
def o0 : oS := (0, fun _ => 0, 0)
theorem lj_zero {nbm : Nat → Nat} {am : Nat} (h : ∀ k, k < 5 → bt5 am k = 0) : ∀ (g best few n : Nat), n + g ≤ 5 → lj nbm am g best few n = best
  | 0, _, _, _, _ => rfl
  | g + 1, best, few, n, h1 => by
    show (if bt5 am n = 0 then lj nbm am g best few (n + 1) else if few ≤ pcb (nbm n) then lj nbm am g best few (n + 1) else lj nbm am g n (pcb (nbm n)) (n + 1)) = best
    rw [if_pos (h n (by omega))]
    exact lj_zero h g best few (n + 1) (by omega)
theorem nmk_none {mk m tk : Nat} (hk : mk < 32) (hm : m < 32) (ht : tk < 32) (h : nmk mk tk = 0) : ∀ k, k < 5 → bt5 (nmk (mk &&& m) tk) k = 0 := fun k h5 => by
  obtain ⟨a1, a2⟩ := bt_and mk hk m hm
  have b1 := bt_nmk mk hk tk ht k h5
  rw [h, show bt5 0 k = 0 by unfold bt5; simp] at b1
  rw [bt_nmk (mk &&& m) a1 tk ht k h5, a2 k h5]
  by_cases q : bt5 tk k = 1
  · rw [if_pos q]
  · rw [if_neg q] at b1 ⊢
    rw [← b1]
    simp
def rrunE (nbm : Nat → Nat) (mk : Nat) : Nat → Nat → oS → Option oS
  | 0, _, s => some s
  | t + 1, pl, s => if nmk mk s.2.2 = 0 then some s else if lj nbm (nmk (mk &&& (if pl < s.1 then nbm (s.2.1 pl) else 31)) s.2.2) 5 5 5 0 = 5 then rrunE nbm mk t (pl + 1) s else if s.1 < 5 then rrunE nbm mk t pl (ap s (lj nbm (nmk (mk &&& (if pl < s.1 then nbm (s.2.1 pl) else 31)) s.2.2) 5 5 5 0)) else none
theorem rr_m {nbm : Nat → Nat} (hn : ∀ n, nbm n < 32) (s : oS) (pl : Nat) : (if pl < s.1 then nbm (s.2.1 pl) else 31) < 32 := by
  by_cases q : pl < s.1
  · rw [if_pos q]; exact hn _
  · rw [if_neg q]; decide
theorem rr_done {nbm : Nat → Nat} {mk : Nat} (hn : ∀ n, nbm n < 32) (hk : mk < 32) {s : oS} (ht : s.2.2 < 32) (h : nmk mk s.2.2 = 0) : ∀ (t pl : Nat), rrun nbm mk t pl s = some s
  | 0, _ => rfl
  | t + 1, pl => by
    rw [rrun, if_pos (lj_zero (nmk_none hk (rr_m hn s pl) ht h) 5 5 5 0 (by decide))]
    exact rr_done hn hk ht h t (pl + 1)
theorem rrE_eq {nbm : Nat → Nat} {mk : Nat} (hn : ∀ n, nbm n < 32) (hk : mk < 32) : ∀ (t pl : Nat) (s : oS), s.2.2 < 32 → rrunE nbm mk t pl s = rrun nbm mk t pl s
  | 0, _, _, _ => rfl
  | t + 1, pl, s, ht => by
    by_cases q : nmk mk s.2.2 = 0
    · rw [rr_done hn hk ht q, rrunE, if_pos q]
    · rw [rrunE, if_neg q, rrun]
      have hle := lj_le nbm (nmk (mk &&& (if pl < s.1 then nbm (s.2.1 pl) else 31)) s.2.2) 5 5 5 0 (by decide) (by decide)
      by_cases e : lj nbm (nmk (mk &&& (if pl < s.1 then nbm (s.2.1 pl) else 31)) s.2.2) 5 5 5 0 = 5
      · rw [if_pos e, if_pos e]
        exact rrE_eq hn hk t (pl + 1) s ht
      · rw [if_neg e, if_neg e]
        by_cases q5 : s.1 < 5
        · rw [if_pos q5, if_pos q5]
          refine rrE_eq hn hk t pl _ ?_
          unfold ap
          rw [if_neg e, if_pos q5]
          exact (bit_or _ ht _ (by omega)).2
        · rw [if_neg q5, if_neg q5]
