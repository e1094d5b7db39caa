/-! Pure rows: sums over a list in a commutative ring, elimination, its pivots in any order -/
def mx_sum {R : Type} [Lean.Grind.CommRing R] : List Nat → (Nat → R) → R
  | [], _ => 0
  | a :: t, f => f a + mx_sum t f
theorem mx_sum_add {R : Type} [Lean.Grind.CommRing R] (l : List Nat) (f g : Nat → R) : mx_sum l (fun i => f i + g i) = mx_sum l f + mx_sum l g := by
  induction l with
  | nil => simp only [mx_sum]; grind
  | cons a t ih => simp only [mx_sum, ih]; grind
theorem mx_sum_sub {R : Type} [Lean.Grind.CommRing R] (l : List Nat) (f g : Nat → R) : mx_sum l (fun i => f i - g i) = mx_sum l f - mx_sum l g := by
  induction l with
  | nil => simp only [mx_sum]; grind
  | cons a t ih => simp only [mx_sum, ih]; grind
theorem mx_sum_mul {R : Type} [Lean.Grind.CommRing R] (l : List Nat) (c : R) (f : Nat → R) : mx_sum l (fun i => c * f i) = c * mx_sum l f := by
  induction l with
  | nil => simp only [mx_sum]; grind
  | cons a t ih => simp only [mx_sum, ih]; grind
theorem mx_sum_mulr {R : Type} [Lean.Grind.CommRing R] (l : List Nat) (c : R) (f : Nat → R) : mx_sum l (fun i => f i * c) = mx_sum l f * c := by
  induction l with
  | nil => simp only [mx_sum]; grind
  | cons a t ih => simp only [mx_sum, ih]; grind
theorem mx_sum_zero {R : Type} [Lean.Grind.CommRing R] (l : List Nat) : mx_sum l (fun _ => (0 : R)) = 0 := by
  induction l with
  | nil => simp only [mx_sum]
  | cons a t ih => simp only [mx_sum, ih]; grind
theorem mx_sum_congr {R : Type} [Lean.Grind.CommRing R] {l : List Nat} {f g : Nat → R} (h : ∀ a ∈ l, f a = g a) : mx_sum l f = mx_sum l g := by
  induction l with
  | nil => rfl
  | cons a t ih => simp only [mx_sum]; rw [h a List.mem_cons_self, ih (fun b hb => h b (List.mem_cons_of_mem _ hb))]
theorem mx_sum_app {R : Type} [Lean.Grind.CommRing R] (l k : List Nat) (f : Nat → R) : mx_sum (l ++ k) f = mx_sum l f + mx_sum k f := by
  induction l with
  | nil => simp only [List.nil_append, mx_sum]; grind
  | cons a t ih => simp only [List.cons_append, mx_sum, ih]; grind
theorem mx_sum_perm {R : Type} [Lean.Grind.CommRing R] {l k : List Nat} (h : l.Perm k) (f : Nat → R) : mx_sum l f = mx_sum k f := by
  induction h with
  | nil => rfl
  | cons x _ ih => simp only [mx_sum, ih]
  | swap x y l => simp only [mx_sum]; grind
  | trans _ _ ih1 ih2 => exact ih1.trans ih2
theorem mx_sum_swap {R : Type} [Lean.Grind.CommRing R] (l k : List Nat) (f : Nat → Nat → R) : mx_sum l (fun i => mx_sum k (fun j => f i j)) = mx_sum k (fun j => mx_sum l (fun i => f i j)) := by
  induction l with
  | nil => simp only [mx_sum]; exact (mx_sum_zero k).symm
  | cons a t ih => simp only [mx_sum, ih]; exact (mx_sum_add k _ _).symm
theorem mx_sum_delta {R : Type} [Lean.Grind.CommRing R] {l : List Nat} (hn : l.Nodup) {p : Nat} (hp : p ∈ l) (f : Nat → R) : mx_sum l (fun u => if p = u then f u else 0) = f p := by
  induction l with
  | nil => exact absurd hp List.not_mem_nil
  | cons a t ih =>
    obtain ⟨ha, ht⟩ := List.nodup_cons.mp hn
    simp only [mx_sum]
    rcases List.mem_cons.mp hp with h | hp
    · subst h
      have hz : mx_sum t (fun u => if p = u then f u else 0) = mx_sum t (fun _ => (0 : R)) := mx_sum_congr (fun b hb => if_neg (fun (e : p = b) => ha (by rw [e]; exact hb)))
      rw [if_pos rfl, hz, mx_sum_zero]; grind
    · rw [if_neg (fun (e : p = a) => ha (by rw [← e]; exact hp)), ih ht hp]; grind
/-- one step of the elimination: pivot v -/
def mx_el {R : Type} [Lean.Grind.CommRing R] (inv : R → R) (S : Nat → Nat → R) (v : Nat) : Nat → Nat → R := fun i j => S i j - S i v * inv (S v v) * S v j
def mx_els {R : Type} [Lean.Grind.CommRing R] (inv : R → R) : List Nat → (Nat → Nat → R) → Nat → Nat → R
  | [], S => S
  | v :: t, S => mx_els inv t (mx_el inv S v)
def mx_piv {R : Type} [Lean.Grind.CommRing R] (inv : R → R) : List Nat → (Nat → Nat → R) → R
  | [], _ => 1
  | v :: t, S => S v v * mx_piv inv t (mx_el inv S v)
/-- what is asked of the ring: an augmentation and inverses of what it sends to 1 -/
def mx_H {R : Type} [Lean.Grind.CommRing R] (ε : R → Int) (inv : R → R) : Prop := (∀ a b : R, ε (a - b) = ε a - ε b) ∧ (∀ a b : R, ε (a * b) = ε a * ε b) ∧ ε 1 = 1 ∧ ∀ a : R, ε a = 1 → a * inv a = 1
def mx_ok {R : Type} (ε : R → Int) (l : List Nat) (S : Nat → Nat → R) : Prop := ∀ i ∈ l, ∀ j ∈ l, ε (S i j) = if i = j then 1 else 0
theorem mx_einv {R : Type} [Lean.Grind.CommRing R] {ε : R → Int} {inv : R → R} (H : mx_H ε inv) {a : R} (h : ε a = 1) : ε (inv a) = 1 := by
  have q := congrArg ε (H.2.2.2 a h)
  rw [H.2.1, h, H.2.2.1] at q
  omega
theorem mx_ok_el {R : Type} [Lean.Grind.CommRing R] {ε : R → Int} {inv : R → R} (H : mx_H ε inv) {v : Nat} {t : List Nat} {S : Nat → Nat → R} (hv : v ∉ t) (h : mx_ok ε (v :: t) S) : mx_ok ε t (mx_el inv S v) := by
  intro i hi j hj
  have hiv : i ≠ v := fun e => hv (e ▸ hi)
  have h1 := h i (List.mem_cons_of_mem _ hi) j (List.mem_cons_of_mem _ hj)
  have h2 := h i (List.mem_cons_of_mem _ hi) v List.mem_cons_self
  rw [if_neg hiv] at h2
  show ε (S i j - S i v * inv (S v v) * S v j) = _
  rw [H.1, H.2.1, H.2.1, h1, h2, Int.zero_mul, Int.zero_mul, Int.sub_zero]
theorem mx_ok_sub {R : Type} {ε : R → Int} {l k : List Nat} {S : Nat → Nat → R} (h : mx_ok ε l S) (hk : ∀ a ∈ k, a ∈ l) : mx_ok ε k S := fun i hi j hj => h i (hk i hi) j (hk j hj)
theorem mx_two {R : Type} [Lean.Grind.CommRing R] (a a' b c d e' p q r t : R) (h1 : a * a' = 1) (h2 : (d - c * a' * b) * e' = 1) : p * a' * r + (q - p * a' * b) * e' * (t - c * a' * r) = (e' * a') * (p * r * d + q * a * t - p * b * t - q * c * r) := by
  have h3 : p * a' * r = p * a' * r * ((d - c * a' * b) * e') := by rw [h2]; grind
  rw [h3]
  have h4 : (e' * a') * (q * a * t) = e' * q * t := by
    have : (e' * a') * (q * a * t) = e' * q * t * (a * a') := by grind
    rw [this, h1]; grind
  have h5 : (e' * a') * (p * r * d + q * a * t - p * b * t - q * c * r) = (e' * a') * (q * a * t) + (e' * a') * (p * r * d - p * b * t - q * c * r) := by grind
  rw [h5, h4]
  grind
theorem mx_uniq {R : Type} [Lean.Grind.CommRing R] {z x y : R} (h1 : z * x = 1) (h2 : z * y = 1) : x = y := by
  have : x * (z * y) = y * (z * x) := by grind
  rw [h1, h2] at this
  grind
theorem mx_swap {R : Type} [Lean.Grind.CommRing R] {ε : R → Int} {inv : R → R} (H : mx_H ε inv) {u v : Nat} {S : Nat → Nat → R} (huv : u ≠ v) (h : mx_ok ε [u, v] S) : mx_el inv (mx_el inv S u) v = mx_el inv (mx_el inv S v) u ∧ S u u * mx_el inv S u v v = S v v * mx_el inv S v u u := by
  have hu : u ∈ [u, v] := List.mem_cons_self
  have hv : v ∈ [u, v] := List.mem_cons_of_mem _ List.mem_cons_self
  have e1 := h u hu u hu
  have e2 := h v hv v hv
  have e3 := h u hu v hv
  rw [if_pos rfl] at e1 e2
  rw [if_neg huv] at e3
  have k1 := H.2.2.2 _ e1
  have k2 := H.2.2.2 _ e2
  have e4 : ε (S v v - S v u * inv (S u u) * S u v) = 1 := by rw [H.1, H.2.1, H.2.1, e2, e3, Int.mul_zero, Int.sub_zero]
  have e5 : ε (S u u - S u v * inv (S v v) * S v u) = 1 := by rw [H.1, H.2.1, H.2.1, e1, e3, Int.zero_mul, Int.zero_mul, Int.sub_zero]
  have k4 := H.2.2.2 _ e4
  have k5 := H.2.2.2 _ e5
  refine ⟨?_, ?_⟩
  · funext i j
    show (S i j - S i u * inv (S u u) * S u j) - (S i v - S i u * inv (S u u) * S u v) * inv (S v v - S v u * inv (S u u) * S u v) * (S v j - S v u * inv (S u u) * S u j) = (S i j - S i v * inv (S v v) * S v j) - (S i u - S i v * inv (S v v) * S v u) * inv (S u u - S u v * inv (S v v) * S v u) * (S u j - S u v * inv (S v v) * S v j)
    generalize inv (S v v - S v u * inv (S u u) * S u v) = e' at k4 ⊢
    generalize inv (S u u - S u v * inv (S v v) * S v u) = f' at k5 ⊢
    generalize inv (S u u) = a' at k1 k4 k5 ⊢
    generalize inv (S v v) = d' at k2 k4 k5 ⊢
    generalize S u u = a at *
    generalize S v v = d at *
    generalize S u v = b at *
    generalize S v u = c at *
    generalize S i j = x
    generalize S i u = p
    generalize S i v = q
    generalize S u j = r
    generalize S v j = t
    have A := mx_two a a' b c d e' p q r t k1 k4
    have B := mx_two d d' c b a f' q p t r k2 k5
    have E : e' * a' = f' * d' := by
      refine mx_uniq (z := a * d - b * c) ?_ ?_
      · have w1 : (a * d - b * c) * (e' * a') = (a * a') * (d * e') - (c * a' * b) * e' := by grind
        have w2 : (d - c * a' * b) * e' = d * e' - (c * a' * b) * e' := by grind
        rw [w1, k1, ← k4, w2]; grind
      · have w1 : (a * d - b * c) * (f' * d') = (d * d') * (a * f') - (b * d' * c) * f' := by grind
        have w2 : (a - b * d' * c) * f' = a * f' - (b * d' * c) * f' := by grind
        rw [w1, k2, ← k5, w2]; grind
    have A2 : x - p * a' * r - (q - p * a' * b) * e' * (t - c * a' * r) = x - (p * a' * r + (q - p * a' * b) * e' * (t - c * a' * r)) := by grind
    have B2 : x - q * d' * t - (p - q * d' * c) * f' * (r - b * d' * t) = x - (q * d' * t + (p - q * d' * c) * f' * (r - b * d' * t)) := by grind
    rw [A2, B2, A, B, E]
    grind
  · show S u u * (S v v - S v u * inv (S u u) * S u v) = S v v * (S u u - S u v * inv (S v v) * S v u)
    have w1 : S u u * (S v v - S v u * inv (S u u) * S u v) = S u u * S v v - (S u u * inv (S u u)) * (S v u * S u v) := by grind
    have w2 : S v v * (S u u - S u v * inv (S v v) * S v u) = S v v * S u u - (S v v * inv (S v v)) * (S u v * S v u) := by grind
    rw [w1, w2, k1, k2]; grind
theorem mx_piv_perm {R : Type} [Lean.Grind.CommRing R] {ε : R → Int} {inv : R → R} (H : mx_H ε inv) {l k : List Nat} (h : l.Perm k) : ∀ (S : Nat → Nat → R), l.Nodup → mx_ok ε l S → mx_piv inv l S = mx_piv inv k S := by
  induction h with
  | nil => intro S _ _; rfl
  | cons x _ ih =>
    intro S hn ho
    obtain ⟨ha, ht⟩ := List.nodup_cons.mp hn
    simp only [mx_piv]
    rw [ih _ ht (mx_ok_el H ha ho)]
  | swap x y l =>
    intro S hn ho
    simp only [mx_piv]
    have hxy : y ≠ x := fun e => (List.nodup_cons.mp hn).1 (e ▸ List.mem_cons_self)
    obtain ⟨q1, q2⟩ := mx_swap H hxy (mx_ok_sub ho (k := [y, x]) (fun a ha => by
      rcases List.mem_cons.mp ha with rfl | ha
      · exact List.mem_cons_self
      · rcases List.mem_cons.mp ha with rfl | ha
        · exact List.mem_cons_of_mem _ List.mem_cons_self
        · exact absurd ha List.not_mem_nil))
    rw [q1]
    have w1 : S y y * (mx_el inv S y x x * mx_piv inv l (mx_el inv (mx_el inv S x) y)) = (S y y * mx_el inv S y x x) * mx_piv inv l (mx_el inv (mx_el inv S x) y) := by grind
    have w2 : S x x * (mx_el inv S x y y * mx_piv inv l (mx_el inv (mx_el inv S x) y)) = (S x x * mx_el inv S x y y) * mx_piv inv l (mx_el inv (mx_el inv S x) y) := by grind
    rw [w1, w2, q2]
  | trans h1 h2 ih1 ih2 =>
    intro S hn ho
    rw [ih1 S hn ho, ih2 S (h1.nodup_iff.mp hn) (mx_ok_sub ho (fun a ha => h1.mem_iff.mpr ha))]
theorem mx_piv_app {R : Type} [Lean.Grind.CommRing R] (inv : R → R) (v : Nat) : ∀ (l : List Nat) (S : Nat → Nat → R), mx_piv inv (l ++ [v]) S = mx_piv inv l S * mx_els inv l S v v
  | [], S => by simp only [List.nil_append, mx_piv, mx_els]; grind
  | a :: t, S => by simp only [List.cons_append, mx_piv, mx_els, mx_piv_app inv v t]; grind
theorem mx_col {R : Type} [Lean.Grind.CommRing R] {ε : R → Int} {inv : R → R} (H : mx_H ε inv) (x : Nat → R) (j : Nat) : ∀ (l : List Nat) (S : Nat → Nat → R), l.Nodup → mx_ok ε l S → (∀ p ∈ l, S p j = mx_sum l (fun q => S p q * x q)) → ∀ i, mx_els inv l S i j = S i j - mx_sum l (fun q => S i q * x q)
  | [], S, _, _, _, i => by simp only [mx_els, mx_sum]; grind
  | v :: t, S, hn, ho, hs, i => by
    obtain ⟨ha, ht⟩ := List.nodup_cons.mp hn
    have e1 := ho v List.mem_cons_self v List.mem_cons_self
    rw [if_pos rfl] at e1
    have k1 := H.2.2.2 _ e1
    have hv := hs v List.mem_cons_self
    simp only [mx_sum] at hv
    have row : ∀ p, mx_sum t (fun q => mx_el inv S v p q * x q) = mx_sum t (fun q => S p q * x q) - S p v * inv (S v v) * mx_sum t (fun q => S v q * x q) := by
      intro p
      rw [← mx_sum_mul, ← mx_sum_sub]
      refine mx_sum_congr (fun q _ => ?_)
      show (S p q - S p v * inv (S v v) * S v q) * x q = _
      grind
    have key : ∀ p, S p v * inv (S v v) * S v j = S p v * x v + S p v * inv (S v v) * mx_sum t (fun q => S v q * x q) := by
      intro p
      rw [hv]
      have : S p v * inv (S v v) * (S v v * x v + mx_sum t (fun q => S v q * x q)) = S p v * x v * (S v v * inv (S v v)) + S p v * inv (S v v) * mx_sum t (fun q => S v q * x q) := by grind
      rw [this, k1]; grind
    simp only [mx_els]
    rw [mx_col H x j t (mx_el inv S v) ht (mx_ok_el H ha ho) ?_ i, row i]
    · show S i j - S i v * inv (S v v) * S v j - _ = _
      rw [key i]
      simp only [mx_sum]
      grind
    · intro p hp
      rw [row p]
      show S p j - S p v * inv (S v v) * S v j = _
      rw [key p, hs p (List.mem_cons_of_mem _ hp)]
      simp only [mx_sum]
      grind
