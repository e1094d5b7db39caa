/-! Pure rows: determinants, by the first column -/
def dt_sk (i a : Nat) : Nat := if a < i then a else a + 1
def dt : Nat → (Nat → Nat → Int) → Int
  | 0, _ => 1
  | n + 1, M => mx_sum (List.range (n + 1)) (fun i => pd_sg i * M i 0 * dt n (fun a b => M (dt_sk i a) (b + 1)))
theorem dt_sk_lt {i a n : Nat} (h : a < n) : dt_sk i a < n + 1 := by
  unfold dt_sk
  by_cases q : a < i
  · rw [if_pos q]; omega
  · rw [if_neg q]; omega
theorem dt_sk_ne (i a : Nat) : dt_sk i a ≠ i := by
  unfold dt_sk
  by_cases q : a < i
  · rw [if_pos q]; omega
  · rw [if_neg q]; omega
theorem dt_sk_ss (i a : Nat) : dt_sk (i + 1) (a + 1) = dt_sk i a + 1 := by
  unfold dt_sk
  by_cases q : a < i
  · rw [if_pos q, if_pos (by omega)]
  · rw [if_neg q, if_neg (by omega)]
theorem dt_sk_s0 (i : Nat) : dt_sk (i + 1) 0 = 0 := by
  unfold dt_sk
  rw [if_pos (by omega)]
theorem dt_sk_0 (a : Nat) : dt_sk 0 a = a + 1 := by
  unfold dt_sk
  rw [if_neg (by omega)]
theorem dt_congr : ∀ (n : Nat) {M N : Nat → Nat → Int}, (∀ i, i < n → ∀ j, j < n → M i j = N i j) → dt n M = dt n N
  | 0, _, _, _ => rfl
  | n + 1, M, N, h => by
    simp only [dt]
    refine mx_sum_congr (fun i hi => ?_)
    rw [h i (List.mem_range.mp hi) 0 (by omega), dt_congr n (fun a ha b hb => h _ (dt_sk_lt ha) (b + 1) (by omega))]
/-- where row r of n rows lies when row i is left out -/
theorem dt_lin : ∀ (n : Nat) {M A B : Nat → Nat → Int} (r : Nat) (c d : Int), r < n → (∀ i, i < n → i ≠ r → ∀ j, j < n → M i j = A i j ∧ M i j = B i j) → (∀ j, j < n → M r j = c * A r j + d * B r j) → dt n M = c * dt n A + d * dt n B
  | 0, _, _, _, r, _, _, hr, _, _ => absurd hr (Nat.not_lt_zero r)
  | n + 1, M, A, B, r, c, d, hr, ho, hl => by
    simp only [dt]
    rw [← mx_sum_mul, ← mx_sum_mul, ← mx_sum_add]
    refine mx_sum_congr (fun i hi => ?_)
    have hi := List.mem_range.mp hi
    by_cases hir : i = r
    · subst hir
      have e1 : dt n (fun a b => M (dt_sk i a) (b + 1)) = dt n (fun a b => A (dt_sk i a) (b + 1)) := dt_congr n (fun a ha b hb => (ho _ (dt_sk_lt ha) (dt_sk_ne i a) _ (by omega)).1)
      have e2 : dt n (fun a b => M (dt_sk i a) (b + 1)) = dt n (fun a b => B (dt_sk i a) (b + 1)) := dt_congr n (fun a ha b hb => (ho _ (dt_sk_lt ha) (dt_sk_ne i a) _ (by omega)).2)
      rw [← e1, ← e2, hl 0 (by omega)]
      grind
    · obtain ⟨q, hq, hqr⟩ : ∃ q, q < n ∧ dt_sk i q = r := by
        by_cases h : r < i
        · exact ⟨r, by omega, by unfold dt_sk; rw [if_pos h]⟩
        · exact ⟨r - 1, by omega, by unfold dt_sk; rw [if_neg (by omega)]; omega⟩
      have hinj : ∀ a, a ≠ q → dt_sk i a ≠ r := fun a ha h => by
        rw [← hqr] at h
        unfold dt_sk at h
        by_cases h1 : a < i <;> by_cases h2 : q < i
        · rw [if_pos h1, if_pos h2] at h; omega
        · rw [if_pos h1, if_neg h2] at h; omega
        · rw [if_neg h1, if_pos h2] at h; omega
        · rw [if_neg h1, if_neg h2] at h; omega
      have e := dt_lin n (M := fun a b => M (dt_sk i a) (b + 1)) (A := fun a b => A (dt_sk i a) (b + 1)) (B := fun a b => B (dt_sk i a) (b + 1)) q c d hq (fun a ha haq b hb => ho _ (dt_sk_lt ha) (hinj a haq) _ (by omega)) (fun b hb => by rw [hqr]; exact hl _ (by omega))
      rw [e, (ho i hi hir 0 (by omega)).1]
      have e3 := (ho i hi hir 0 (by omega)).2
      rw [(ho i hi hir 0 (by omega)).1] at e3
      rw [← e3]
      grind
theorem dt_two {n r : Nat} (hr : r + 1 < n) (f : Nat → Int) (h : ∀ i, i < n → i ≠ r → i ≠ r + 1 → f i = 0) : mx_sum (List.range n) f = f r + f (r + 1) := by
  have e : mx_sum (List.range n) f = mx_sum (List.range n) (fun i => (if r = i then f i else 0) + (if r + 1 = i then f i else 0)) := by
    refine mx_sum_congr (fun i hi => ?_)
    have hi := List.mem_range.mp hi
    by_cases h1 : r = i
    · rw [if_pos h1, if_neg (by omega)]; omega
    · by_cases h2 : r + 1 = i
      · rw [if_neg h1, if_pos h2]; omega
      · rw [if_neg h1, if_neg h2, h i hi (Ne.symm h1) (Ne.symm h2)]; rfl
  rw [e, mx_sum_add, mx_sum_delta List.nodup_range (List.mem_range.mpr (by omega)), mx_sum_delta List.nodup_range (List.mem_range.mpr hr)]
theorem dt_adj : ∀ (n : Nat) {M : Nat → Nat → Int} (r : Nat), r + 1 < n → (∀ j, j < n → M r j = M (r + 1) j) → dt n M = 0
  | 0, _, r, hr, _ => absurd hr (Nat.not_lt_zero _)
  | n + 1, M, r, hr, h => by
    simp only [dt]
    rw [dt_two hr _ (fun i hi h1 h2 => ?_)]
    · have e : dt n (fun a b => M (dt_sk r a) (b + 1)) = dt n (fun a b => M (dt_sk (r + 1) a) (b + 1)) := dt_congr n (fun a ha b hb => by
        unfold dt_sk
        by_cases h1 : a < r
        · rw [if_pos h1, if_pos (by omega)]
        · by_cases h2 : a = r
          · subst h2
            rw [if_neg (by omega), if_pos (by omega)]
            exact (h (b + 1) (by omega)).symm
          · rw [if_neg (by omega), if_neg (by omega)])
      rw [e, h 0 (by omega), pd_sg_s]
      grind
    · have e : dt n (fun a b => M (dt_sk i a) (b + 1)) = 0 := by
        by_cases hri : r < i
        · refine dt_adj n r (by omega) (fun j hj => ?_)
          show M (dt_sk i r) (j + 1) = M (dt_sk i (r + 1)) (j + 1)
          unfold dt_sk
          rw [if_pos hri, if_pos (by omega)]
          exact h _ (by omega)
        · obtain ⟨r', rfl⟩ : ∃ r', r = r' + 1 := ⟨r - 1, by omega⟩
          refine dt_adj n r' (by omega) (fun j hj => ?_)
          show M (dt_sk i r') (j + 1) = M (dt_sk i (r' + 1)) (j + 1)
          unfold dt_sk
          rw [if_neg (by omega), if_neg (by omega)]
          exact h _ (by omega)
      rw [e, Int.mul_zero]
/-- rows put in place of two rows -/
def dt_put (M : Nat → Nat → Int) (r s : Nat) (u v : Nat → Int) : Nat → Nat → Int := fun i j => if i = r then u j else if i = s then v j else M i j
theorem dt_swapOf {n : Nat} (M : Nat → Nat → Int) {r s : Nat} (hr : r < n) (hs : s < n) (hrs : r ≠ s) (h0 : ∀ u : Nat → Int, dt n (dt_put M r s u u) = 0) (u v : Nat → Int) : dt n (dt_put M r s v u) = - dt n (dt_put M r s u v) := by
  have f1 : ∀ w, dt n (dt_put M r s (fun j => u j + v j) w) = 1 * dt n (dt_put M r s u w) + 1 * dt n (dt_put M r s v w) := fun w => by
    refine dt_lin n r 1 1 hr (fun i hi hir j hj => ?_) (fun j hj => ?_)
    · unfold dt_put
      rw [if_neg hir, if_neg hir, if_neg hir]
      exact ⟨rfl, rfl⟩
    · unfold dt_put
      rw [if_pos rfl, if_pos rfl, if_pos rfl]
      show u j + v j = 1 * u j + 1 * v j
      omega
  have f2 : ∀ w, dt n (dt_put M r s w (fun j => u j + v j)) = 1 * dt n (dt_put M r s w u) + 1 * dt n (dt_put M r s w v) := fun w => by
    refine dt_lin n s 1 1 hs (fun i hi his j hj => ?_) (fun j hj => ?_)
    · unfold dt_put
      rw [if_neg his, if_neg his, if_neg his]
      exact ⟨rfl, rfl⟩
    · unfold dt_put
      rw [if_neg (Ne.symm hrs), if_neg (Ne.symm hrs), if_neg (Ne.symm hrs), if_pos rfl, if_pos rfl, if_pos rfl]
      show u j + v j = 1 * u j + 1 * v j
      omega
  have h := h0 (fun j => u j + v j)
  rw [f1, f2, f2, h0 u, h0 v] at h
  omega
theorem dt_putSelf {n : Nat} (M : Nat → Nat → Int) {r s : Nat} (hrs : r ≠ s) : dt n (dt_put M r s (M r) (M s)) = dt n M := dt_congr n (fun i _ j _ => by
  unfold dt_put
  by_cases h1 : i = r
  · rw [if_pos h1, h1]
  · rw [if_neg h1]
    by_cases h2 : i = s
    · rw [if_pos h2, h2]
    · rw [if_neg h2])
theorem dt_eq : ∀ (k : Nat) {n : Nat} {M : Nat → Nat → Int} (r : Nat), r + 1 + k < n → (∀ j, j < n → M r j = M (r + 1 + k) j) → dt n M = 0
  | 0, n, M, r, hr, h => dt_adj n r hr h
  | k + 1, n, M, r, hr, h => by
    have sw := dt_swapOf M (r := r + 1 + k) (s := r + 1 + k + 1) (by omega) (by omega) (by omega) (fun u => dt_adj n (r + 1 + k) (by omega) (fun j hj => by
      unfold dt_put
      rw [if_pos rfl, if_neg (by omega), if_pos rfl])) (M (r + 1 + k)) (M (r + 1 + k + 1))
    rw [dt_putSelf M (by omega)] at sw
    have z : dt n (dt_put M (r + 1 + k) (r + 1 + k + 1) (M (r + 1 + k + 1)) (M (r + 1 + k))) = 0 := by
      refine dt_eq k r (by omega) (fun j hj => ?_)
      unfold dt_put
      rw [if_neg (by omega), if_neg (by omega), if_pos rfl]
      exact h j hj
    rw [z] at sw
    omega
theorem dt_same {n : Nat} {M : Nat → Nat → Int} {r s : Nat} (hr : r < n) (hs : s < n) (hrs : r ≠ s) (h : ∀ j, j < n → M r j = M s j) : dt n M = 0 := by
  rcases Nat.lt_or_gt_of_ne hrs with q | q
  · obtain ⟨k, rfl⟩ : ∃ k, s = r + 1 + k := ⟨s - r - 1, by omega⟩
    exact dt_eq k r hs h
  · obtain ⟨k, rfl⟩ : ∃ k, r = s + 1 + k := ⟨r - s - 1, by omega⟩
    exact dt_eq k s hr (fun j hj => (h j hj).symm)
/-- two rows exchanged -/
theorem dt_swap {n : Nat} {M N : Nat → Nat → Int} {r s : Nat} (hr : r < n) (hs : s < n) (hrs : r ≠ s) (h1 : ∀ j, j < n → N r j = M s j) (h2 : ∀ j, j < n → N s j = M r j) (ho : ∀ i, i < n → i ≠ r → i ≠ s → ∀ j, j < n → N i j = M i j) : dt n N = - dt n M := by
  have sw := dt_swapOf M hr hs hrs (fun u => dt_same hr hs hrs (fun j _ => by
    unfold dt_put
    rw [if_pos rfl, if_neg (Ne.symm hrs), if_pos rfl])) (M r) (M s)
  rw [dt_putSelf M hrs] at sw
  rw [← sw]
  refine dt_congr n (fun i hi j hj => ?_)
  unfold dt_put
  by_cases q1 : i = r
  · rw [if_pos q1, q1]; exact h1 j hj
  · rw [if_neg q1]
    by_cases q2 : i = s
    · rw [if_pos q2, q2]; exact h2 j hj
    · rw [if_neg q2]; exact ho i hi q1 q2 j hj
/-- a multiple of one row added to another -/
theorem dt_addrow {n : Nat} {M N : Nat → Nat → Int} {r s : Nat} (c : Int) (hr : r < n) (hs : s < n) (hrs : r ≠ s) (h1 : ∀ j, j < n → N r j = M r j + c * M s j) (ho : ∀ i, i < n → i ≠ r → ∀ j, j < n → N i j = M i j) : dt n N = dt n M := by
  have e := dt_lin n (M := N) (A := M) (B := fun i j => if i = r then M s j else M i j) r 1 c hr (fun i hi hir j hj => ⟨ho i hi hir j hj, by rw [if_neg hir]; exact ho i hi hir j hj⟩) (fun j hj => by rw [if_pos rfl, h1 j hj]; omega)
  rw [e, dt_same (M := fun i j => if i = r then M s j else M i j) hr hs hrs (fun j hj => by rw [if_pos rfl, if_neg (Ne.symm hrs)])]
  omega
theorem dt_col0 {n : Nat} {M : Nat → Nat → Int} (h : ∀ i, 0 < i → i < n + 1 → M i 0 = 0) : dt (n + 1) M = M 0 0 * dt n (fun a b => M (a + 1) (b + 1)) := by
  simp only [dt]
  have e : mx_sum (List.range (n + 1)) (fun i => pd_sg i * M i 0 * dt n (fun a b => M (dt_sk i a) (b + 1))) = mx_sum (List.range (n + 1)) (fun i => if 0 = i then pd_sg i * M i 0 * dt n (fun a b => M (dt_sk i a) (b + 1)) else 0) := by
    refine mx_sum_congr (fun i hi => ?_)
    have hi := List.mem_range.mp hi
    by_cases q : 0 = i
    · rw [if_pos q]
    · rw [if_neg q, h i (by omega) hi]; grind
  rw [e, mx_sum_delta List.nodup_range (List.mem_range.mpr (by omega)) (fun i => pd_sg i * M i 0 * dt n (fun a b => M (dt_sk i a) (b + 1)))]
  have e2 : dt n (fun a b => M (dt_sk 0 a) (b + 1)) = dt n (fun a b => M (a + 1) (b + 1)) := dt_congr n (fun a _ b _ => by rw [dt_sk_0])
  rw [e2]
  show 1 * M 0 0 * _ = _
  rw [Int.one_mul]
theorem dt_colz {n : Nat} {M : Nat → Nat → Int} (h : ∀ i, i < n + 1 → M i 0 = 0) : dt (n + 1) M = 0 := by
  rw [dt_col0 (fun i _ hi => h i hi), h 0 (by omega), Int.zero_mul]
theorem mx_range_succ (n : Nat) (f : Nat → Int) : mx_sum (List.range (n + 1)) f = f 0 + mx_sum (List.range n) (fun i => f (i + 1)) := by
  rw [List.range_succ_eq_map]
  show f 0 + mx_sum ((List.range n).map Nat.succ) f = _
  have e : ∀ l : List Nat, mx_sum (l.map Nat.succ) f = mx_sum l (fun i => f (i + 1)) := fun l => by
    induction l with
    | nil => rfl
    | cons a t ih =>
      show f (a + 1) + mx_sum (t.map Nat.succ) f = _
      rw [ih]; rfl
  rw [e]
/-- by the first row -/
theorem dt_row : ∀ (n : Nat) (M : Nat → Nat → Int), dt (n + 1) M = mx_sum (List.range (n + 1)) (fun j => pd_sg j * M 0 j * dt n (fun a b => M (a + 1) (dt_sk j b)))
  | 0, M => by
    simp only [dt]
    rfl
  | n + 1, M => by
    show mx_sum (List.range (n + 1 + 1)) (fun i => pd_sg i * M i 0 * dt (n + 1) (fun a b => M (dt_sk i a) (b + 1))) = _
    rw [mx_range_succ (n + 1), mx_range_succ (n + 1)]
    have e0 : dt (n + 1) (fun a b => M (dt_sk 0 a) (b + 1)) = dt (n + 1) (fun a b => M (a + 1) (dt_sk 0 b)) := dt_congr _ (fun a _ b _ => by rw [dt_sk_0, dt_sk_0])
    rw [e0]
    congr 1
    have eL : mx_sum (List.range (n + 1)) (fun i => pd_sg (i + 1) * M (i + 1) 0 * dt (n + 1) (fun a b => M (dt_sk (i + 1) a) (b + 1))) = mx_sum (List.range (n + 1)) (fun i => mx_sum (List.range (n + 1)) (fun j => pd_sg (i + 1) * M (i + 1) 0 * (pd_sg j * M 0 (j + 1) * dt n (fun a b => M (dt_sk i a + 1) (dt_sk j b + 1))))) := by
      refine mx_sum_congr (fun i hi => ?_)
      rw [dt_row n, mx_sum_mul]
      congr 1
      refine mx_sum_congr (fun j hj => ?_)
      rw [dt_sk_s0]
      congr 2
      funext a b
      rw [dt_sk_ss]
    have eR : mx_sum (List.range (n + 1)) (fun j => pd_sg (j + 1) * M 0 (j + 1) * dt (n + 1) (fun a b => M (a + 1) (dt_sk (j + 1) b))) = mx_sum (List.range (n + 1)) (fun j => mx_sum (List.range (n + 1)) (fun i => pd_sg (i + 1) * M (i + 1) 0 * (pd_sg j * M 0 (j + 1) * dt n (fun a b => M (dt_sk i a + 1) (dt_sk j b + 1))))) := by
      refine mx_sum_congr (fun j hj => ?_)
      simp only [dt]
      rw [← mx_sum_mul]
      refine mx_sum_congr (fun i hi => ?_)
      rw [dt_sk_s0, pd_sg_s, pd_sg_s]
      have e9 : dt n (fun a b => M (dt_sk i a + 1) (dt_sk (j + 1) (b + 1))) = dt n (fun a b => M (dt_sk i a + 1) (dt_sk j b + 1)) := dt_congr n (fun a _ b _ => by rw [dt_sk_ss])
      rw [e9]
      grind
    rw [eL, eR, mx_sum_swap]
theorem dt_tr : ∀ (n : Nat) (M : Nat → Nat → Int), dt n (fun i j => M j i) = dt n M
  | 0, _ => rfl
  | n + 1, M => by
    rw [dt_row n M]
    simp only [dt]
    refine mx_sum_congr (fun i _ => ?_)
    rw [dt_tr n (fun a b => M (a + 1) (dt_sk i b))]
/-- by columns -/
theorem dt_linc {n : Nat} {M A B : Nat → Nat → Int} (r : Nat) (c d : Int) (hr : r < n) (ho : ∀ i, i < n → ∀ j, j < n → j ≠ r → M i j = A i j ∧ M i j = B i j) (hl : ∀ i, i < n → M i r = c * A i r + d * B i r) : dt n M = c * dt n A + d * dt n B := by
  rw [← dt_tr n M, ← dt_tr n A, ← dt_tr n B]
  exact dt_lin n r c d hr (fun i hi hir j hj => ho j hj i hi hir) hl
theorem dt_samec {n : Nat} {M : Nat → Nat → Int} {r s : Nat} (hr : r < n) (hs : s < n) (hrs : r ≠ s) (h : ∀ i, i < n → M i r = M i s) : dt n M = 0 := by
  rw [← dt_tr n M]
  exact dt_same hr hs hrs h
/-- column u put in -/
def dt_pc (M : Nat → Nat → Int) (u : Nat) (b : Nat → Int) : Nat → Nat → Int := fun i j => if j = u then b i else M i j
theorem dt_pcsum {n : Nat} (M : Nat → Nat → Int) {u : Nat} (hu : u < n) (y : Nat → Int) (f : Nat → Nat → Int) (l : List Nat) : dt n (dt_pc M u (fun i => mx_sum l (fun q => f i q * y q))) = mx_sum l (fun q => y q * dt n (dt_pc M u (fun i => f i q))) := by
  induction l with
  | nil =>
    have e := dt_linc (n := n) (M := dt_pc M u (fun i => mx_sum [] (fun q => f i q * y q))) (A := M) (B := M) u 0 0 hu (fun i hi j hj hju => by unfold dt_pc; rw [if_neg hju]; exact ⟨rfl, rfl⟩) (fun i hi => by unfold dt_pc; rw [if_pos rfl]; show (0 : Int) = _; omega)
    rw [e]
    show _ = (0 : Int)
    omega
  | cons a t ih =>
    have e := dt_linc (n := n) (M := dt_pc M u (fun i => mx_sum (a :: t) (fun q => f i q * y q))) (A := dt_pc M u (fun i => f i a)) (B := dt_pc M u (fun i => mx_sum t (fun q => f i q * y q))) u (y a) 1 hu (fun i hi j hj hju => by unfold dt_pc; rw [if_neg hju, if_neg hju, if_neg hju]; exact ⟨rfl, rfl⟩) (fun i hi => by
      unfold dt_pc
      rw [if_pos rfl, if_pos rfl, if_pos rfl]
      show f i a * y a + mx_sum t (fun q => f i q * y q) = _
      grind)
    rw [e, ih]
    show _ = y a * _ + _
    omega
/-- Cramer -/
theorem dt_cramer {n : Nat} {K : Nat → Nat → Int} {y b : Nat → Int} {D : Int} (h : ∀ p, p < n → mx_sum (List.range n) (fun q => K p q * y q) = D * b p) {u : Nat} (hu : u < n) : D * dt n (dt_pc K u b) = y u * dt n K := by
  have e1 : dt n (dt_pc K u (fun i => mx_sum (List.range n) (fun q => K i q * y q))) = D * dt n (dt_pc K u b) := by
    have e := dt_linc (n := n) (M := dt_pc K u (fun i => mx_sum (List.range n) (fun q => K i q * y q))) (A := dt_pc K u b) (B := dt_pc K u b) u D 0 hu (fun i hi j hj hju => by unfold dt_pc; rw [if_neg hju, if_neg hju]; exact ⟨rfl, rfl⟩) (fun i hi => by unfold dt_pc; rw [if_pos rfl, if_pos rfl]; show mx_sum (List.range n) (fun q => K i q * y q) = _; rw [h i hi]; omega)
    rw [e]; omega
  rw [← e1, dt_pcsum K hu y K]
  have e2 : mx_sum (List.range n) (fun q => y q * dt n (dt_pc K u (fun i => K i q))) = mx_sum (List.range n) (fun q => if u = q then y q * dt n K else 0) := by
    refine mx_sum_congr (fun q hq => ?_)
    have hq := List.mem_range.mp hq
    by_cases hqu : u = q
    · rw [if_pos hqu]
      congr 1
      refine dt_congr n (fun i _ j _ => ?_)
      unfold dt_pc
      by_cases hj : j = u
      · rw [if_pos hj, hj, hqu]
      · rw [if_neg hj]
    · rw [if_neg hqu, dt_samec (r := u) (s := q) hu hq hqu (fun i hi => by unfold dt_pc; rw [if_pos rfl, if_neg (Ne.symm hqu)]), Int.mul_zero]
  rw [e2, mx_sum_delta List.nodup_range (List.mem_range.mpr hu) (fun q => y q * dt n K)]
theorem dt_zc {n : Nat} {M : Nat → Nat → Int} {u : Nat} (hu : u < n) (h : ∀ i, i < n → M i u = 0) : dt n M = 0 := by
  have e := dt_linc (n := n) (M := M) (A := M) (B := M) u 0 0 hu (fun i hi j hj hju => ⟨rfl, rfl⟩) (fun i hi => by rw [h i hi]; omega)
  omega
/-- the last column is that of the last unit -/
theorem dt_last : ∀ (n : Nat) (M : Nat → Nat → Int), (∀ i, i < n + 1 → M i n = if i = n then 1 else 0) → dt (n + 1) M = dt n M
  | 0, M, h => by
    simp only [dt]
    show pd_sg 0 * M 0 0 * 1 + 0 = 1
    rw [h 0 (by omega)]
    rfl
  | n + 1, M, h => by
    show mx_sum (List.range (n + 1 + 1)) (fun i => pd_sg i * M i 0 * dt (n + 1) (fun a b => M (dt_sk i a) (b + 1))) = mx_sum (List.range (n + 1)) (fun i => pd_sg i * M i 0 * dt n (fun a b => M (dt_sk i a) (b + 1)))
    rw [List.range_succ, mx_sum_app]
    have z : dt (n + 1) (fun a b => M (dt_sk (n + 1) a) (b + 1)) = 0 := dt_zc (u := n) (by omega) (fun i hi => by
      show M (dt_sk (n + 1) i) (n + 1) = 0
      unfold dt_sk
      rw [if_pos hi, h i (by omega), if_neg (by omega)])
    have e1 : mx_sum [n + 1] (fun i => pd_sg i * M i 0 * dt (n + 1) (fun a b => M (dt_sk i a) (b + 1))) = 0 := by
      show pd_sg (n + 1) * M (n + 1) 0 * dt (n + 1) (fun a b => M (dt_sk (n + 1) a) (b + 1)) + 0 = 0
      rw [z]; omega
    rw [e1, Int.add_zero]
    refine mx_sum_congr (fun i hi => ?_)
    have hi := List.mem_range.mp hi
    rw [dt_last n (fun a b => M (dt_sk i a) (b + 1)) (fun a ha => by
      show M (dt_sk i a) (n + 1) = _
      rw [h _ (dt_sk_lt ha)]
      unfold dt_sk
      by_cases q : a < i
      · rw [if_pos q, if_neg (by omega), if_neg (by omega)]
      · rw [if_neg q]
        by_cases q2 : a = n
        · rw [if_pos (by omega), if_pos q2]
        · rw [if_neg (by omega), if_neg q2])]
