/-! The stiffness is symmetric, its form is never below 0, its numbers are small -/
theorem K_sym (pt fi se st sp : Nat → Nat) : ∀ nb r c, KI pt fi se st sp nb r c = KI pt fi se st sp nb c r
  | 0, r, c => by
    show (if r = c then (sp r : Int) else 0) = if c = r then (sp c : Int) else 0
    by_cases e : r = c
    · rw [e]
    · rw [if_neg e, if_neg (Ne.symm e)]
  | i + 1, r, c => by
    show KI pt fi se st sp i r c + (st i : Int) * sbI pt fi se i r * sbI pt fi se i c = KI pt fi se st sp i c r + (st i : Int) * sbI pt fi se i c * sbI pt fi se i r
    rw [K_sym pt fi se st sp i r c]
    grind
theorem K_rng {pt fi se st sp : Nat → Nat} (hsp : ∀ d, d < 10 → sp d ≤ 3) {r : Nat} (hr : r < 10) (c : Nat) : ∀ nb, (∀ i, i < nb → st i ≤ 3) → -(3 + 3 * (nb : Int)) ≤ KI pt fi se st sp nb r c ∧ KI pt fi se st sp nb r c ≤ 3 + 3 * (nb : Int)
  | 0, _ => by
    have := hsp r hr
    show _ ≤ (if r = c then (sp r : Int) else 0) ∧ (if r = c then (sp r : Int) else 0) ≤ _
    by_cases e : r = c
    · rw [if_pos e]; omega
    · rw [if_neg e]; omega
  | i + 1, h => by
    obtain ⟨h1, h2⟩ := K_rng (pt := pt) (fi := fi) (se := se) hsp hr c i (fun k hk => h k (by omega))
    have hs := h i (by omega)
    obtain ⟨a1, a2⟩ := sb_rng pt fi se i r
    obtain ⟨b1, b2⟩ := sb_rng pt fi se i c
    obtain ⟨m1, m2⟩ := pr_rng (v := (st i : Int)) (a := 3) (by omega) (by omega) a1 a2
    obtain ⟨n1, n2⟩ := pr_rng m1 m2 b1 b2
    show _ ≤ KI pt fi se st sp i r c + (st i : Int) * sbI pt fi se i r * sbI pt fi se i c ∧ KI pt fi se st sp i r c + (st i : Int) * sbI pt fi se i r * sbI pt fi se i c ≤ _
    omega
theorem sq_nn (a : Int) : 0 ≤ a * a := by
  rcases Int.le_total 0 a with h | h
  · exact Int.mul_nonneg h h
  · have := Int.mul_nonneg (show 0 ≤ -a by omega) (show 0 ≤ -a by omega)
    rw [Int.neg_mul_neg] at this
    exact this
/-- the matrix of the unknowns -/
def AU (pt fi se st sp us : Nat → Nat) (nb : Nat) : Nat → Nat → Int := fun i j => KI pt fi se st sp nb (us i) (us j)
theorem AU_sym (pt fi se st sp us : Nat → Nat) (nb : Nat) (l : List Nat) : pd_sym (AU pt fi se st sp us nb) l := fun p _ q _ => K_sym pt fi se st sp nb (us p) (us q)
theorem AU_pos {pt fi se st sp us : Nat → Nat} {l : List Nat} (hn : l.Nodup) (hi : ∀ p ∈ l, ∀ q ∈ l, us p = us q → p = q) : ∀ nb, pd_pos (AU pt fi se st sp us nb) l
  | 0, x => by
    have e : pd_q (AU pt fi se st sp us 0) l x x = mx_sum l (fun p => (sp (us p) : Int) * (x p * x p)) := by
      unfold pd_q
      refine mx_sum_congr (fun p hp => ?_)
      have e1 : mx_sum l (fun q => AU pt fi se st sp us 0 p q * x q) = mx_sum l (fun q => if p = q then (sp (us p) : Int) * x q else 0) := mx_sum_congr (fun q hq => by
        show (if us p = us q then (sp (us p) : Int) else 0) * x q = _
        by_cases e : p = q
        · rw [if_pos (by rw [e]), if_pos e]
        · rw [if_neg (fun e2 => e (hi p hp q hq e2)), if_neg e, Int.zero_mul])
      rw [e1, mx_sum_delta hn hp (fun q => (sp (us p) : Int) * x q)]
      grind
    rw [e]
    have key : ∀ k : List Nat, 0 ≤ mx_sum k (fun p => (sp (us p) : Int) * (x p * x p)) := fun k => by
      induction k with
      | nil => exact Int.le_refl 0
      | cons a t ih =>
        have := Int.mul_nonneg (Int.natCast_nonneg (sp (us a))) (sq_nn (x a))
        show 0 ≤ (sp (us a) : Int) * (x a * x a) + _
        omega
    exact key l
  | nb + 1, x => by
    have h := AU_pos (pt := pt) (fi := fi) (se := se) (st := st) (sp := sp) hn hi nb x
    have e : pd_q (AU pt fi se st sp us (nb + 1)) l x x = pd_q (AU pt fi se st sp us nb) l x x + (st nb : Int) * (mx_sum l (fun q => sbI pt fi se nb (us q) * x q) * mx_sum l (fun q => sbI pt fi se nb (us q) * x q)) := by
      unfold pd_q
      have e1 : ∀ p, mx_sum l (fun q => AU pt fi se st sp us (nb + 1) p q * x q) = mx_sum l (fun q => AU pt fi se st sp us nb p q * x q) + (st nb : Int) * sbI pt fi se nb (us p) * mx_sum l (fun q => sbI pt fi se nb (us q) * x q) := fun p => by
        rw [← mx_sum_mul, ← mx_sum_add]
        refine mx_sum_congr (fun q _ => ?_)
        show (KI pt fi se st sp nb (us p) (us q) + (st nb : Int) * sbI pt fi se nb (us p) * sbI pt fi se nb (us q)) * x q = KI pt fi se st sp nb (us p) (us q) * x q + _
        grind
      have e2 : mx_sum l (fun p => x p * mx_sum l (fun q => AU pt fi se st sp us (nb + 1) p q * x q)) = mx_sum l (fun p => x p * mx_sum l (fun q => AU pt fi se st sp us nb p q * x q) + (st nb : Int) * mx_sum l (fun q => sbI pt fi se nb (us q) * x q) * (sbI pt fi se nb (us p) * x p)) := mx_sum_congr (fun p _ => by
        rw [e1 p]
        generalize mx_sum l (fun q => sbI pt fi se nb (us q) * x q) = S
        generalize mx_sum l (fun q => AU pt fi se st sp us nb p q * x q) = T
        grind)
      rw [e2, mx_sum_add, mx_sum_mul]
      generalize mx_sum l (fun q => sbI pt fi se nb (us q) * x q) = S
      grind
    rw [e]
    have := Int.mul_nonneg (Int.natCast_nonneg (st nb)) (sq_nn (mx_sum l (fun q => sbI pt fi se nb (us q) * x q)))
    omega
/-! sums -/
theorem mx_sum_le {l : List Nat} {f g : Nat → Int} (h : ∀ i ∈ l, f i ≤ g i) : mx_sum l f ≤ mx_sum l g := by
  induction l with
  | nil => exact Int.le_refl 0
  | cons a t ih =>
    have h1 := h a List.mem_cons_self
    have h2 := ih (fun i hi => h i (List.mem_cons_of_mem _ hi))
    show f a + mx_sum t f ≤ g a + mx_sum t g
    omega
theorem mx_sum_inj (us : Nat → Nat) : ∀ (n : Nat) (f : Nat → Int), (∀ r, 0 ≤ f r) → (∀ i, i < n → us i < 10) → (∀ i, i < n → ∀ j, j < i → us j ≠ us i) → mx_sum (List.range n) (fun i => f (us i)) ≤ mx_sum (List.range 10) f
  | 0, f, h0, _, _ => by
    show (0 : Int) ≤ _
    have key : ∀ k : List Nat, 0 ≤ mx_sum k f := fun k => by
      induction k with
      | nil => exact Int.le_refl 0
      | cons a t ih => have := h0 a; show 0 ≤ f a + _; omega
    exact key _
  | n + 1, f, h0, hu, hi => by
    have ih := mx_sum_inj us n (fun r => if r = us n then 0 else f r) (fun r => by
      by_cases e : r = us n
      · simp only [if_pos e]; exact Int.le_refl 0
      · simp only [if_neg e]; exact h0 r) (fun i h => hu i (by omega)) (fun i h => hi i (by omega))
    have e1 : mx_sum (List.range n) (fun i => (fun r => if r = us n then (0 : Int) else f r) (us i)) = mx_sum (List.range n) (fun i => f (us i)) := mx_sum_congr (fun i h => if_neg (hi n (by omega) i (List.mem_range.mp h)))
    rw [e1] at ih
    have e2 : mx_sum (List.range 10) f = mx_sum (List.range 10) (fun r => if us n = r then f r else 0) + mx_sum (List.range 10) (fun r => if r = us n then (0 : Int) else f r) := by
      rw [← mx_sum_add]
      refine mx_sum_congr (fun r _ => ?_)
      by_cases e : r = us n
      · rw [if_pos e.symm, if_pos e]; omega
      · rw [if_neg (Ne.symm e), if_neg e]; omega
    rw [mx_sum_delta List.nodup_range (List.mem_range.mpr (hu n (by omega))) f] at e2
    rw [mx_rs]
    omega
theorem half5 : ∀ a, a < 5 → mx_sum (List.range 10) (fun r => if r / 2 = a then (1 : Int) else 0) = 2 := by decide +kernel
theorem K_tr {pt fi se st sp : Nat → Nat} (hsp : ∀ d, d < 10 → sp d ≤ 3) : ∀ nb, (∀ i, i < nb → st i ≤ 3 ∧ fi i < 5 ∧ se i < 5) → mx_sum (List.range 10) (fun r => KI pt fi se st sp nb r r) ≤ 30 + 12 * (nb : Int)
  | 0, _ => by
    have h := mx_sum_le (l := List.range 10) (f := fun r => KI pt fi se st sp 0 r r) (g := fun _ => 3) (fun r hr => by
      have := hsp r (List.mem_range.mp hr)
      show (if r = r then (sp r : Int) else 0) ≤ 3
      rw [if_pos rfl]
      omega)
    have e : mx_sum (List.range 10) (fun _ => (3 : Int)) = 30 := by decide
    rw [e] at h
    omega
  | i + 1, h => by
    have ih := K_tr (pt := pt) (fi := fi) (se := se) hsp i (fun k hk => h k (by omega))
    obtain ⟨h1, h2, h3⟩ := h i (by omega)
    have e : mx_sum (List.range 10) (fun r => KI pt fi se st sp (i + 1) r r) = mx_sum (List.range 10) (fun r => KI pt fi se st sp i r r) + mx_sum (List.range 10) (fun r => (st i : Int) * sbI pt fi se i r * sbI pt fi se i r) := (mx_sum_add _ _ _)
    have h4 := mx_sum_le (l := List.range 10) (f := fun r => (st i : Int) * sbI pt fi se i r * sbI pt fi se i r) (g := fun r => 3 * (if r / 2 = se i then (1 : Int) else 0) + 3 * (if r / 2 = fi i then (1 : Int) else 0)) (fun r hr => by
      obtain ⟨a1, a2⟩ := sb_rng pt fi se i r
      obtain ⟨m1, m2⟩ := pr_rng (v := (st i : Int)) (a := 3) (by omega) (by omega) a1 a2
      obtain ⟨n1, n2⟩ := pr_rng m1 m2 a1 a2
      by_cases q1 : r / 2 = se i
      · simp only [if_pos q1]
        by_cases q2 : r / 2 = fi i
        · simp only [if_pos q2]; omega
        · simp only [if_neg q2]; omega
      · simp only [if_neg q1]
        by_cases q2 : r / 2 = fi i
        · simp only [if_pos q2]; omega
        · simp only [if_neg q2]
          have : sbI pt fi se i r = 0 := by unfold sbI; rw [if_neg q1, if_neg q2]
          rw [this]
          omega)
    rw [mx_sum_add, mx_sum_mul, mx_sum_mul, half5 _ h2, half5 _ h3] at h4
    rw [e]
    have : ((i + 1 : Nat) : Int) = (i : Int) + 1 := rfl
    omega
theorem mx_prod_congr {l : List Nat} {f g : Nat → Int} (h : ∀ i ∈ l, f i = g i) : mx_prod l f = mx_prod l g := by
  induction l with
  | nil => rfl
  | cons a t ih =>
    show f a * mx_prod t f = g a * mx_prod t g
    rw [h a List.mem_cons_self, ih (fun i hi => h i (List.mem_cons_of_mem _ hi))]
theorem mx_prod_nn {l : List Nat} {f : Nat → Nat} : 0 ≤ mx_prod l (fun i => (f i : Int)) := by
  induction l with
  | nil => show (0 : Int) ≤ 1; decide
  | cons a s ih => exact Int.mul_nonneg (Int.natCast_nonneg _) ih
theorem pw_lt {x : Int} (h0 : 0 ≤ x) {c b : Nat} (h : x ^ 10 ≤ ((c : Nat) : Int)) (hc : c < b ^ 10) : x < b := by
  obtain ⟨n, rfl⟩ : ∃ n : Nat, x = n := ⟨x.toNat, by omega⟩
  rw [← Int.natCast_pow] at h
  have h1 : n ^ 10 ≤ c := Int.ofNat_le.mp h
  rcases Nat.lt_or_ge n b with q | q
  · exact Int.ofNat_lt.mpr q
  · have := Nat.pow_le_pow_left q 10
    omega
/-- a minor of a form that is never below 0, with small diagonal -/
theorem mi_lt {A : Nat → Nat → Int} {l : List Nat} (hn : l.Nodup) (hs : pd_sym A l) (hp : pd_pos A l) (hd : ∀ i ∈ l, A i i ≤ 150) (ht : mx_sum l (fun i => A i i) ≤ 150) (k : Nat) (hl : l.length ≤ k) {b : Nat} (hb : 17654716 ^ k * 2 ^ 150 < b ^ 10) : 0 ≤ pd_D A l ∧ pd_D A l < b := by
  have h1 := lk_prod l hn hs hp
  have e : ∀ i ∈ l, A i i = (((A i i).toNat : Nat) : Int) := fun i hi => by
    have := lk_diag hn hp hi
    omega
  rw [mx_prod_congr e] at h1
  rw [mx_sum_congr e] at ht
  have h2 := lk_pw l (fun i => (A i i).toNat) (fun i hi => by
    have := hd i hi
    omega)
  have h3 : (17654716 : Int) ^ l.length * 2 ^ (mx_sum l (fun i => (((A i i).toNat : Nat) : Int))).toNat ≤ ((17654716 ^ k * 2 ^ 150 : Nat) : Int) := by
    have a1 : 17654716 ^ l.length ≤ 17654716 ^ k := Nat.pow_le_pow_right (by decide) hl
    have a2 : 2 ^ (mx_sum l (fun i => (((A i i).toNat : Nat) : Int))).toNat ≤ 2 ^ 150 := Nat.pow_le_pow_right (by decide) (by omega)
    have a3 := Nat.mul_le_mul a1 a2
    have a4 := Int.ofNat_le.mpr a3
    rw [Int.natCast_mul, Int.natCast_pow, Int.natCast_pow] at a4
    exact a4
  have h4 := pw_lt mx_prod_nn (Int.le_trans h2 h3) hb
  exact ⟨(pd_main l.length l rfl hn hs hp).1, by omega⟩
theorem K_dg (pt fi se st sp : Nat → Nat) : ∀ nb r, 0 ≤ KI pt fi se st sp nb r r
  | 0, r => by
    show 0 ≤ (if r = r then (sp r : Int) else 0)
    rw [if_pos rfl]
    omega
  | i + 1, r => by
    have h := K_dg pt fi se st sp i r
    have h2 := Int.mul_nonneg (Int.natCast_nonneg (st i)) (sq_nn (sbI pt fi se i r))
    show 0 ≤ KI pt fi se st sp i r r + (st i : Int) * sbI pt fi se i r * sbI pt fi se i r
    rw [Int.mul_assoc]
    omega
/-- what is sure of the unknowns -/
def usF (n : Nat) (us : Nat → Nat) : Prop := n ≤ 10 ∧ (∀ i, i < n → us i < 10) ∧ ∀ i, i < n → ∀ j, j < i → us j ≠ us i
theorem us_eq {n : Nat} {us : Nat → Nat} (h : usF n us) {p q : Nat} (hp : p < n) (hq : q < n) (e : us p = us q) : p = q := by
  rcases Nat.lt_trichotomy p q with r | r | r
  · exact absurd e (h.2.2 q hq p r)
  · exact r
  · exact absurd e.symm (h.2.2 p hp q r)
/-- what is sure of the bars and springs -/
def brF (nb : Nat) (fi se st sp : Nat → Nat) : Prop := nb ≤ 10 ∧ (∀ i, i < nb → st i ≤ 3 ∧ fi i < 5 ∧ se i < 5) ∧ ∀ d, d < 10 → sp d ≤ 3
theorem AU_tr {pt fi se st sp us : Nat → Nat} {nb n : Nat} (hb : brF nb fi se st sp) (hu : usF n us) {j : Nat} (hj : j ≤ n) : mx_sum (List.range j) (fun i => AU pt fi se st sp us nb i i) ≤ 150 := by
  have h1 := mx_sum_inj us j (fun r => KI pt fi se st sp nb r r) (fun r => K_dg pt fi se st sp nb r) (fun i hi => hu.2.1 i (by omega)) (fun i hi => hu.2.2 i (by omega))
  have h2 := K_tr (pt := pt) (fi := fi) (se := se) (st := st) hb.2.2 nb hb.2.1
  have h3 := hb.1
  have h4 : mx_sum (List.range j) (fun i => AU pt fi se st sp us nb i i) = mx_sum (List.range j) (fun i => KI pt fi se st sp nb (us i) (us i)) := rfl
  omega
theorem AU_dg {pt fi se st sp us : Nat → Nat} {nb n : Nat} (hb : brF nb fi se st sp) (hu : usF n us) {i : Nat} (hi : i < n) : AU pt fi se st sp us nb i i ≤ 150 := by
  have h := (K_rng (pt := pt) (fi := fi) (se := se) (st := st) hb.2.2 (hu.2.1 i hi) (us i) nb (fun k hk => (hb.2.1 k hk).1)).2
  have h3 := hb.1
  show KI pt fi se st sp nb (us i) (us i) ≤ 150
  omega
theorem AU_rp {pt fi se st sp us : Nat → Nat} {nb n : Nat} (hu : usF n us) {j : Nat} (hj : j ≤ n) : pd_pos (AU pt fi se st sp us nb) (List.range j) := AU_pos List.nodup_range (fun p hp q hq e => us_eq hu (by have := List.mem_range.mp hp; omega) (by have := List.mem_range.mp hq; omega) e) nb
theorem AU_D {pt fi se st sp us : Nat → Nat} {nb n : Nat} (hb : brF nb fi se st sp) (hu : usF n us) {j : Nat} (hj : j ≤ n) : 0 ≤ pd_D (AU pt fi se st sp us nb) (List.range j) ∧ pd_D (AU pt fi se st sp us nb) (List.range j) < 1099511627776 := mi_lt (b := 1099511627776) List.nodup_range (AU_sym _ _ _ _ _ _ _ _) (AU_rp hu hj) (fun i hi => AU_dg hb hu (by have := List.mem_range.mp hi; omega)) (AU_tr hb hu hj) 10 (by rw [List.length_range]; have := hu.1; omega) (by decide +kernel)
theorem AU_E {pt fi se st sp us : Nat → Nat} {nb n : Nat} (hb : brF nb fi se st sp) (hu : usF n us) {v : Nat} (hv : v < n) : pd_D (AU pt fi se st sp us nb) ((List.range n).erase v) ≤ 137438953472 := by
  have hm : v ∈ List.range n := List.mem_range.mpr hv
  have sub : ∀ i ∈ (List.range n).erase v, i < n := fun i hi => List.mem_range.mp (List.mem_of_mem_erase hi)
  have ht := AU_tr (pt := pt) hb hu (Nat.le_refl n)
  rw [mx_sum_perm (List.perm_cons_erase hm)] at ht
  have hv0 := K_dg pt fi se st sp nb (us v)
  have ht2 : mx_sum ((List.range n).erase v) (fun i => AU pt fi se st sp us nb i i) ≤ 150 := by
    have e : mx_sum (v :: (List.range n).erase v) (fun i => AU pt fi se st sp us nb i i) = KI pt fi se st sp nb (us v) (us v) + mx_sum ((List.range n).erase v) (fun i => AU pt fi se st sp us nb i i) := rfl
    omega
  have h := (mi_lt (b := 137438953472) (List.Nodup.erase v List.nodup_range) (AU_sym _ _ _ _ _ _ _ _) (pd_erase List.nodup_range hm (AU_rp (pt := pt) (fi := fi) (se := se) (st := st) (sp := sp) (nb := nb) hu (Nat.le_refl n))) (fun i hi => AU_dg hb hu (sub i hi)) ht2 9 (by rw [List.length_erase_of_mem hm, List.length_range]; have := hu.1; omega) (by decide +kernel)).2
  exact Int.le_of_lt h
