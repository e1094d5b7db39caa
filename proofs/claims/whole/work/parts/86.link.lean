/-! Pure rows: the polynomial's last number is the determinant; bounds -/
theorem lk_erase (n : Nat) : (List.range (n + 1)).erase n = List.range n := by
  rw [List.range_succ, List.erase_append_right _ (by simp)]
  simp
theorem lk_D {A : Nat → Nat → Int} : ∀ (n : Nat), (∀ i, i < n → pd_D A (List.range i) ≠ 0) → pd_D A (List.range n) = dt n A
  | 0, _ => rfl
  | n + 1, h => by
    have ih := lk_D n (fun i hi => h i (by omega))
    have hd := h n (by omega)
    obtain ⟨a, ha, hav⟩ := pd_adj A (List.nodup_range (n := n + 1)) (List.mem_range.mpr (Nat.lt_succ_self n))
    rw [lk_erase, ih] at hav
    rw [ih] at hd
    have hc := dt_cramer (n := n + 1) (K := A) (y := a) (b := fun p => if p = n then 1 else 0) (D := pd_D A (List.range (n + 1))) (fun p hp => by
      rw [ha p (List.mem_range.mpr hp)]
      by_cases q : p = n
      · rw [if_pos q, if_pos q, Int.mul_one]
      · rw [if_neg q, if_neg q, Int.mul_zero]) (u := n) (by omega)
    have e1 : dt (n + 1) (dt_pc A n (fun p => if p = n then 1 else 0)) = dt n A := by
      rw [dt_last n _ (fun i hi => by unfold dt_pc; rw [if_pos rfl])]
      refine dt_congr n (fun i hi j hj => ?_)
      unfold dt_pc
      rw [if_neg (by omega)]
    rw [e1, hav] at hc
    rw [Int.mul_comm] at hc
    exact Int.eq_of_mul_eq_mul_left hd hc
/-- a vector that is 0 from i on: the form over more rows is the form over the first i -/
theorem lk_ext (A : Nat → Nat → Int) (x : Nat → Int) {i : Nat} (h : ∀ q, i ≤ q → x q = 0) (p : Nat) : ∀ N, i ≤ N → mx_sum (List.range N) (fun q => A p q * x q) = mx_sum (List.range i) (fun q => A p q * x q) := by
  intro N
  induction N with
  | zero => intro hN; rw [show i = 0 by omega]
  | succ N ih =>
    intro hN
    by_cases hq : i = N + 1
    · rw [hq]
    · rw [List.range_succ, mx_sum_app, ih (by omega)]
      show _ + (A p N * x N + 0) = _
      rw [h N (by omega)]
      omega
theorem lk_zero {A : Nat → Nat → Int} {N i : Nat} (hs : pd_sym A (List.range N)) (hp : pd_pos A (List.range N)) (hi : i + 1 ≤ N) (h0 : pd_D A (List.range (i + 1)) = 0) (h1 : pd_D A (List.range i) ≠ 0) : dt N A = 0 := by
  obtain ⟨a, ha, hav⟩ := pd_adj A (List.nodup_range (n := i + 1)) (List.mem_range.mpr (Nat.lt_succ_self i))
  rw [lk_erase] at hav
  have hrow : ∀ p, p < i + 1 → mx_sum (List.range (i + 1)) (fun q => A p q * a q) = 0 := fun p hp => by
    rw [ha p (List.mem_range.mpr hp), h0]
    by_cases q : p = i
    · rw [if_pos q]
    · rw [if_neg q]
  have hx0 : ∀ q, i + 1 ≤ q → (fun q => if q < i + 1 then a q else 0) q = 0 := fun q hq => if_neg (by omega)
  have hin : ∀ p, mx_sum (List.range (i + 1)) (fun q => A p q * (fun q => if q < i + 1 then a q else 0) q) = mx_sum (List.range (i + 1)) (fun q => A p q * a q) := fun p => mx_sum_congr (fun q hq => by
    show A p q * (if q < i + 1 then a q else 0) = _
    rw [if_pos (List.mem_range.mp hq)])
  have hq0 : pd_q A (List.range N) (fun q => if q < i + 1 then a q else 0) (fun q => if q < i + 1 then a q else 0) = 0 := by
    unfold pd_q
    rw [mx_sum_congr (g := fun _ => 0) (fun p hp => ?_), mx_sum_zero]
    rw [lk_ext A _ hx0 p N hi, hin p]
    by_cases q : p < i + 1
    · rw [hrow p q, Int.mul_zero]
    · show (if p < i + 1 then a p else 0) * _ = 0
      rw [if_neg q, Int.zero_mul]
  have hnull : ∀ p, p < N → mx_sum (List.range N) (fun q => A p q * (fun q => if q < i + 1 then a q else 0) q) = 1 * (fun _ => (0 : Int)) p := fun p hp2 => by
    have := pd_null hs hp hq0 (fun q => if p = q then 1 else 0)
    rw [pd_row List.nodup_range (List.mem_range.mpr hp2)] at this
    rw [this]
    rfl
  have hc := dt_cramer (n := N) (K := A) (y := fun q => if q < i + 1 then a q else 0) (b := fun _ => 0) (D := 1) hnull (u := i) (by omega)
  rw [dt_zc (M := dt_pc A i (fun _ => 0)) (u := i) (by omega) (fun j hj => by unfold dt_pc; rw [if_pos rfl])] at hc
  have e : (if i < i + 1 then a i else 0) = pd_D A (List.range i) := by rw [if_pos (by omega), hav]
  rw [e, Int.mul_zero] at hc
  rcases Int.mul_eq_zero.mp hc.symm with q | q
  · exact absurd q h1
  · exact q
/-- minors and the product of the diagonal -/
def mx_prod : List Nat → (Nat → Int) → Int
  | [], _ => 1
  | a :: t, f => f a * mx_prod t f
theorem lk_diag {A : Nat → Nat → Int} {l : List Nat} (hn : l.Nodup) (hp : pd_pos A l) {v : Nat} (hv : v ∈ l) : 0 ≤ A v v := by
  have h := hp (fun p => if v = p then 1 else 0)
  rw [pd_row hn hv] at h
  have e : mx_sum l (fun q => A v q * (if v = q then 1 else 0)) = mx_sum l (fun q => if v = q then A v q else 0) := mx_sum_congr (fun q _ => by
    by_cases h : v = q
    · rw [if_pos h, if_pos h, Int.mul_one]
    · rw [if_neg h, if_neg h, Int.mul_zero])
  rw [e, mx_sum_delta hn hv (fun q => A v q)] at h
  exact h
theorem lk_prod {A : Nat → Nat → Int} : ∀ (l : List Nat), l.Nodup → pd_sym A l → pd_pos A l → pd_D A l ≤ mx_prod l (fun i => A i i)
  | [], _, _, _ => Int.le_refl 1
  | v :: t, hn, hs, hp => by
    have ht := (List.nodup_cons.mp hn).2
    have e : (v :: t).erase v = t := by simp
    have hpt : pd_pos A t := by
      have := pd_erase hn List.mem_cons_self hp
      rw [e] at this
      exact this
    have h1 := ((pd_main (A := A) (v :: t).length (v :: t) rfl hn hs hp).2 v List.mem_cons_self).1
    rw [e] at h1
    have h2 := lk_prod t ht (fun p hp q hq => hs p (List.mem_cons_of_mem _ hp) q (List.mem_cons_of_mem _ hq)) hpt
    exact Int.le_trans h1 (Int.mul_le_mul_of_nonneg_left h2 (lk_diag hn hp List.mem_cons_self))
def mx_abs (x : Int) : Int := if 0 ≤ x then x else -x
theorem mx_abs_nn (x : Int) : 0 ≤ mx_abs x := by unfold mx_abs; split <;> omega
theorem mx_abs_le {x : Int} : x ≤ mx_abs x ∧ -x ≤ mx_abs x := by unfold mx_abs; split <;> omega
theorem mx_abs_of {x b : Int} (h1 : x ≤ b) (h2 : -x ≤ b) : mx_abs x ≤ b := by unfold mx_abs; split <;> omega
theorem mx_abs_mul {a b B : Int} (ha : mx_abs a ≤ B) : a * b ≤ B * mx_abs b ∧ -(a * b) ≤ B * mx_abs b := by
  have h1 := mx_abs_le (x := a)
  have hB : 0 ≤ B := Int.le_trans (mx_abs_nn a) ha
  unfold mx_abs
  by_cases hb : 0 ≤ b
  · rw [if_pos hb]
    have e1 : a * b ≤ B * b := Int.mul_le_mul_of_nonneg_right (by omega) hb
    have e2 : (-a) * b ≤ B * b := Int.mul_le_mul_of_nonneg_right (by omega) hb
    have e3 : (-a) * b = -(a * b) := Int.neg_mul a b
    omega
  · rw [if_neg hb]
    have e1 : a * (-b) ≤ B * (-b) := Int.mul_le_mul_of_nonneg_right (by omega) (by omega)
    have e2 : (-a) * (-b) ≤ B * (-b) := Int.mul_le_mul_of_nonneg_right (by omega) (by omega)
    have e3 : (-a) * (-b) = a * b := Int.neg_mul_neg a b
    have e4 : a * (-b) = -(a * b) := Int.mul_neg a b
    omega
theorem lk_sum {l : List Nat} {a b : Nat → Int} {B : Int} (h : ∀ p ∈ l, mx_abs (a p) ≤ B) : mx_abs (mx_sum l (fun p => a p * b p)) ≤ B * mx_sum l (fun p => mx_abs (b p)) := by
  induction l with
  | nil =>
    show mx_abs 0 ≤ B * 0
    rw [Int.mul_zero]
    decide
  | cons x t ih =>
    have h1 := ih (fun p hp => h p (List.mem_cons_of_mem _ hp))
    have h2 := mx_abs_mul (b := b x) (h x List.mem_cons_self)
    have h3 := mx_abs_le (x := mx_sum t (fun p => a p * b p))
    show mx_abs (a x * b x + mx_sum t (fun p => a p * b p)) ≤ B * (mx_abs (b x) + mx_sum t (fun p => mx_abs (b p)))
    rw [Int.mul_add]
    exact mx_abs_of (by omega) (by omega)
theorem lk_bound {A : Nat → Nat → Int} {l : List Nat} (hn : l.Nodup) (hs : pd_sym A l) (hp : pd_pos A l) (hD : 0 < pd_D A l) {B : Int} (hB : ∀ v ∈ l, pd_D A (l.erase v) ≤ B) {y b : Nat → Int} (hy : ∀ p ∈ l, mx_sum l (fun q => A p q * y q) = pd_D A l * b p) {v : Nat} (hv : v ∈ l) : mx_abs (y v) ≤ B * mx_sum l (fun p => mx_abs (b p)) := by
  obtain ⟨a, ha, hav⟩ := pd_adj A hn hv
  rw [pd_sol hn hs hD hv ha hy]
  refine lk_sum (fun u hu => ?_)
  obtain ⟨c, hc, hcu⟩ := pd_adj A hn hu
  have h := pd_entry hn hs hp hD hu hv ha hc
  have h1 := hB v hv
  have h2 := hB u hu
  rw [hav, hcu] at h
  exact mx_abs_of (by omega) (by omega)
/-- a product of few whole numbers whose sum is small -/
theorem lk_w : ∀ d : Nat, d < 151 → d ^ 10 ≤ 17654716 * 2 ^ d := by decide +kernel
theorem lk_pw : ∀ (l : List Nat) (f : Nat → Nat), (∀ i ∈ l, f i < 151) → (mx_prod l (fun i => (f i : Int))) ^ 10 ≤ 17654716 ^ l.length * 2 ^ (mx_sum l (fun i => (f i : Int))).toNat
  | [], _, _ => by
    show (1 : Int) ^ 10 ≤ 17654716 ^ 0 * 2 ^ (0 : Int).toNat
    decide
  | v :: t, f, h => by
    have ih := lk_pw t f (fun i hi => h i (List.mem_cons_of_mem _ hi))
    have h1 := lk_w (f v) (h v List.mem_cons_self)
    have nn : ∀ k : List Nat, 0 ≤ mx_sum k (fun i => (f i : Int)) := fun k => by
      induction k with
      | nil => exact Int.le_refl 0
      | cons a s ih => show 0 ≤ (f a : Int) + _; omega
    have pn : ∀ k : List Nat, 0 ≤ mx_prod k (fun i => (f i : Int)) := fun k => by
      induction k with
      | nil => show (0 : Int) ≤ 1; decide
      | cons a s ih => exact Int.mul_nonneg (Int.natCast_nonneg _) ih
    show ((f v : Int) * mx_prod t (fun i => (f i : Int))) ^ 10 ≤ 17654716 ^ (t.length + 1) * 2 ^ ((f v : Int) + mx_sum t (fun i => (f i : Int))).toNat
    have e1 : ((f v : Int) + mx_sum t (fun i => (f i : Int))).toNat = f v + (mx_sum t (fun i => (f i : Int))).toNat := by
      have := nn t
      omega
    rw [e1, Int.mul_pow]
    have h2 : ((f v : Int)) ^ 10 ≤ 17654716 * 2 ^ f v := by
      have q := Int.ofNat_le.mpr h1
      rw [Int.natCast_pow, Int.natCast_mul, Int.natCast_pow] at q
      exact q
    have h3 := Int.mul_le_mul h2 ih (Int.pow_nonneg (pn t)) (by exact Int.mul_nonneg (by decide) (Int.pow_nonneg (by decide)))
    refine Int.le_trans h3 (Int.le_of_eq ?_)
    rw [Int.pow_succ, Int.pow_add]
    grind
