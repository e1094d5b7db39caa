/-! Pure rows: power series over the whole numbers are such a ring -/
abbrev ps_T : Type := Nat → Int
def ps_mul : (Nat → Int) → (Nat → Int) → Nat → Int
  | f, g, 0 => f 0 * g 0
  | f, g, m + 1 => f 0 * g (m + 1) + ps_mul (fun k => f (k + 1)) g m
def ps_c (c : Int) : Nat → Int := fun m => if m = 0 then c else 0
def ps_s : Nat → Int := fun m => if m = 1 then 1 else 0
theorem ps_mul_0l (g : Nat → Int) : ∀ m, ps_mul (fun _ => 0) g m = 0
  | 0 => by simp only [ps_mul]; exact Int.zero_mul _
  | m + 1 => by simp only [ps_mul]; rw [ps_mul_0l g m, Int.zero_mul]; rfl
theorem ps_c_tail (c : Int) : (fun k => ps_c c (k + 1)) = fun _ => 0 := by
  funext k
  show (if k + 1 = 0 then c else 0) = 0
  rw [if_neg (Nat.succ_ne_zero k)]
theorem ps_s_tail : (fun k => ps_s (k + 1)) = ps_c 1 := by
  funext k
  show (if k + 1 = 1 then (1 : Int) else 0) = if k = 0 then 1 else 0
  by_cases h : k = 0
  · rw [if_pos h, if_pos (by omega)]
  · rw [if_neg h, if_neg (by omega)]
theorem ps_mul_c (c : Int) (g : Nat → Int) : ∀ m, ps_mul (ps_c c) g m = c * g m
  | 0 => by simp only [ps_mul]; rfl
  | m + 1 => by
    simp only [ps_mul]
    rw [ps_c_tail, ps_mul_0l, Int.add_zero]; rfl
theorem ps_mul_s0 (g : Nat → Int) : ps_mul ps_s g 0 = 0 := by
  simp only [ps_mul]
  exact Int.zero_mul _
theorem ps_mul_s (g : Nat → Int) (m : Nat) : ps_mul ps_s g (m + 1) = g m := by
  simp only [ps_mul]
  rw [ps_s_tail, ps_mul_c, Int.one_mul]
  show (0 : Int) * _ + _ = _
  rw [Int.zero_mul, Int.zero_add]
theorem ps_mul_r : ∀ (m : Nat) (f g : Nat → Int), ps_mul f g (m + 1) = f (m + 1) * g 0 + ps_mul f (fun k => g (k + 1)) m
  | 0, f, g => by simp only [ps_mul]; exact Int.add_comm _ _
  | m + 1, f, g => by
    have h := ps_mul_r m (fun k => f (k + 1)) g
    have e1 : ps_mul f g (m + 1 + 1) = f 0 * g (m + 1 + 1) + ps_mul (fun k => f (k + 1)) g (m + 1) := rfl
    have e2 : ps_mul f (fun k => g (k + 1)) (m + 1) = f 0 * g (m + 1 + 1) + ps_mul (fun k => f (k + 1)) (fun k => g (k + 1)) m := rfl
    rw [e1, e2, h]
    omega
theorem ps_comm : ∀ (m : Nat) (f g : Nat → Int), ps_mul f g m = ps_mul g f m
  | 0, f, g => by simp only [ps_mul]; exact Int.mul_comm _ _
  | m + 1, f, g => by
    rw [ps_mul_r m g f, ps_comm m g]
    simp only [ps_mul]
    rw [Int.mul_comm]
theorem ps_lin (c : Int) (h : Nat → Int) : ∀ (m : Nat) (f g : Nat → Int), ps_mul (fun k => c * f k + g k) h m = c * ps_mul f h m + ps_mul g h m
  | 0, f, g => by simp only [ps_mul]; grind
  | m + 1, f, g => by
    have q := ps_lin c h m (fun k => f (k + 1)) (fun k => g (k + 1))
    simp only [ps_mul]
    rw [q]
    grind
theorem ps_assoc (g h : Nat → Int) : ∀ (m : Nat) (f : Nat → Int), ps_mul (ps_mul f g) h m = ps_mul f (ps_mul g h) m
  | 0, f => by simp only [ps_mul]; exact Int.mul_assoc _ _ _
  | m + 1, f => by
    have q := ps_assoc g h m (fun k => f (k + 1))
    have e1 : ps_mul (ps_mul f g) h (m + 1) = f 0 * g 0 * h (m + 1) + ps_mul (fun k => f 0 * g (k + 1) + ps_mul (fun k => f (k + 1)) g k) h m := rfl
    have e2 : ps_mul f (ps_mul g h) (m + 1) = f 0 * (g 0 * h (m + 1) + ps_mul (fun k => g (k + 1)) h m) + ps_mul (fun k => f (k + 1)) (ps_mul g h) m := rfl
    rw [e1, e2, ps_lin (f 0) h m (fun k => g (k + 1)) (ps_mul (fun k => f (k + 1)) g), q]
    grind
theorem ps_dist (f : Nat → Int) (g h : Nat → Int) (m : Nat) : ps_mul f (fun k => g k + h k) m = ps_mul f g m + ps_mul f h m := by
  rw [ps_comm m f, ps_comm m f g, ps_comm m f h]
  have := ps_lin 1 f m g h
  simp only [Int.one_mul] at this
  exact this
def ps_pow (f : Nat → Int) : Nat → Nat → Int
  | 0 => ps_c 1
  | n + 1 => ps_mul (ps_pow f n) f
theorem ps_c_add (a b : Int) : ps_c (a + b) = fun m => ps_c a m + ps_c b m := by
  funext m
  show (if m = 0 then a + b else 0) = (if m = 0 then a else 0) + if m = 0 then b else 0
  by_cases h : m = 0
  · rw [if_pos h, if_pos h, if_pos h]
  · rw [if_neg h, if_neg h, if_neg h]; rfl
theorem ps_c_neg (a : Int) : ps_c (-a) = fun m => - ps_c a m := by
  funext m
  show (if m = 0 then -a else 0) = - (if m = 0 then a else 0)
  by_cases h : m = 0
  · rw [if_pos h, if_pos h]
  · rw [if_neg h, if_neg h]; rfl
theorem ps_c_0 : ps_c 0 = fun _ => 0 := by
  funext m
  show (if m = 0 then (0 : Int) else 0) = 0
  by_cases h : m = 0
  · rw [if_pos h]
  · rw [if_neg h]
def ps_ring : Lean.Grind.CommRing ps_T :=
  { add := fun f g => fun m => f m + g m
    mul := fun f g => ps_mul f g
    natCast := ⟨fun n => ps_c (n : Int)⟩
    ofNat := fun n => ⟨ps_c (n : Int)⟩
    nsmul := ⟨fun n f => ps_mul (ps_c (n : Int)) f⟩
    npow := ⟨fun f n => ps_pow f n⟩
    neg := fun f => fun m => - f m
    sub := fun f g => fun m => f m - g m
    intCast := ⟨fun i => ps_c i⟩
    zsmul := ⟨fun i f => ps_mul (ps_c i) f⟩
    add_zero := fun f => by
      funext m
      show f m + ps_c 0 m = f m
      rw [ps_c_0]; exact Int.add_zero _
    add_comm := fun f g => funext fun m => Int.add_comm (f m) (g m)
    add_assoc := fun f g h => funext fun m => Int.add_assoc (f m) (g m) (h m)
    mul_assoc := fun f g h => funext fun m => ps_assoc g h m f
    mul_comm := fun f g => funext fun m => ps_comm m f g
    mul_one := fun f => funext fun m => by
      show ps_mul f (ps_c 1) m = f m
      rw [ps_comm, ps_mul_c, Int.one_mul]
    one_mul := fun f => funext fun m => by
      show ps_mul (ps_c 1) f m = f m
      rw [ps_mul_c, Int.one_mul]
    left_distrib := fun f g h => funext fun m => ps_dist f g h m
    right_distrib := fun f g h => funext fun m => by
      show ps_mul (fun k => f k + g k) h m = ps_mul f h m + ps_mul g h m
      rw [ps_comm, ps_dist, ps_comm m h f, ps_comm m h g]
    zero_mul := fun f => funext fun m => by
      show ps_mul (ps_c 0) f m = ps_c 0 m
      rw [ps_mul_c, ps_c_0, Int.zero_mul]
    mul_zero := fun f => funext fun m => by
      show ps_mul f (ps_c 0) m = ps_c 0 m
      rw [ps_comm, ps_mul_c, ps_c_0, Int.zero_mul]
    pow_zero := fun _ => rfl
    pow_succ := fun _ _ => rfl
    ofNat_succ := fun a => by
      show ps_c ((a + 1 : Nat) : Int) = fun m => ps_c (a : Int) m + ps_c ((1 : Nat) : Int) m
      rw [← ps_c_add]; rfl
    ofNat_eq_natCast := fun _ => rfl
    nsmul_eq_natCast_mul := fun _ _ => rfl
    neg_add_cancel := fun f => funext fun m => by
      show - f m + f m = ps_c 0 m
      rw [ps_c_0]; exact Int.add_left_neg _
    sub_eq_add_neg := fun f g => funext fun m => Int.sub_eq_add_neg
    neg_zsmul := fun i f => funext fun m => by
      show ps_mul (ps_c (-i)) f m = - ps_mul (ps_c i) f m
      rw [ps_mul_c, ps_mul_c, Int.neg_mul]
    zsmul_natCast_eq_nsmul := fun _ _ => rfl
    intCast_ofNat := fun _ => rfl
    intCast_neg := fun i => ps_c_neg i }
def ps_ia (f : Nat → Int) : Nat → Nat → Int
  | 0 => ps_c 1
  | n + 1 => fun k => if k ≤ n then ps_ia f n k else if k = n + 1 then - ps_mul (fun j => f (j + 1)) (ps_ia f n) n else 0
def ps_inv (f : Nat → Int) : Nat → Int := fun k => ps_ia f k k
theorem ps_ia_st (f : Nat → Int) : ∀ (n k : Nat), k ≤ n → ps_ia f n k = ps_inv f k
  | 0, k, h => by
    have : k = 0 := by omega
    subst this; rfl
  | n + 1, k, h => by
    by_cases hk : k ≤ n
    · have e : ps_ia f (n + 1) k = ps_ia f n k := by
        show (if k ≤ n then _ else _) = _
        rw [if_pos hk]
      rw [e, ps_ia_st f n k hk]
    · have : k = n + 1 := by omega
      subst this; rfl
theorem ps_mul_congr {g h : Nat → Int} : ∀ (m : Nat) (f : Nat → Int), (∀ k, k ≤ m → g k = h k) → ps_mul f g m = ps_mul f h m
  | 0, f, q => by simp only [ps_mul]; rw [q 0 (Nat.le_refl 0)]
  | m + 1, f, q => by
    simp only [ps_mul]
    rw [q (m + 1) (Nat.le_refl _), ps_mul_congr m _ (fun k hk => q k (by omega))]
theorem ps_inv_ok {f : Nat → Int} (h0 : f 0 = 1) : ps_mul f (ps_inv f) = ps_c 1 := by
  funext m
  match m with
  | 0 =>
    simp only [ps_mul]
    rw [h0]; rfl
  | m + 1 =>
    have e1 : ps_inv f (m + 1) = - ps_mul (fun j => f (j + 1)) (ps_ia f m) m := by
      show (if m + 1 ≤ m then _ else if m + 1 = m + 1 then _ else _) = _
      rw [if_neg (by omega), if_pos rfl]
    have e2 : ps_mul (fun j => f (j + 1)) (ps_inv f) m = ps_mul (fun j => f (j + 1)) (ps_ia f m) m := ps_mul_congr m _ (fun k hk => (ps_ia_st f m k hk).symm)
    simp only [ps_mul]
    rw [e1, e2, h0]
    show 1 * - _ + _ = (if m + 1 = 0 then (1 : Int) else 0)
    rw [if_neg (Nat.succ_ne_zero m)]
    omega
def ps_dl (f : Nat → Int) (n : Nat) : Prop := ∀ m, n ≤ m → f m = 0
theorem ps_H : @mx_H ps_T ps_ring (fun f => f 0) ps_inv := ⟨fun _ _ => rfl, fun _ _ => rfl, rfl, fun f h => ps_inv_ok h⟩
theorem ps_G : @mx_G ps_T ps_ring ps_c ps_s ps_dl := by
  refine ⟨fun n m _ => ?_, fun n m h => ?_, fun f g n hf hg m h => ?_, fun f g n hf hg m h => ?_, fun c f n hf m h => ?_, fun f n hf m h => ?_, fun f n hf m h => hf m (by omega)⟩
  · show ps_c 0 m = 0
    rw [ps_c_0]
  · show (if m = 0 then (1 : Int) else 0) = 0
    rw [if_neg (by omega)]
  · show f m + g m = 0
    rw [hf m h, hg m h]; rfl
  · show f m - g m = 0
    rw [hf m h, hg m h]; rfl
  · show ps_mul (ps_c c) f m = 0
    rw [ps_mul_c, hf m h, Int.mul_zero]
  · show ps_mul ps_s f m = 0
    match m, h with
    | m + 1, h => rw [ps_mul_s]; exact hf m (by omega)
theorem ps_sum_at (l : List Nat) (f : Nat → ps_T) (m : Nat) : (@mx_sum ps_T ps_ring l f) m = mx_sum l (fun q => f q m) := by
  induction l with
  | nil => show ps_c 0 m = 0; rw [ps_c_0]
  | cons a t ih =>
    show f a m + (@mx_sum ps_T ps_ring t f) m = f a m + mx_sum t (fun q => f q m)
    rw [ih]
/-- the characteristic polynomial of the rows and columns l, that of the highest power first -/
def ch_P (A : Nat → Nat → Int) (l : List Nat) : Nat → Int := @mx_piv ps_T ps_ring ps_inv l (@mx_M ps_T ps_ring ps_c ps_s A)
theorem ps_M_mul (A : Nat → Nat → Int) (p q : Nat) (w : Nat → Int) (m : Nat) : ps_mul (@mx_M ps_T ps_ring ps_c ps_s A p q) w m = (if p = q then w m else 0) - (if m = 0 then 0 else A p q * w (m - 1)) := by
  have e : @mx_M ps_T ps_ring ps_c ps_s A p q = fun k => (-1) * ps_mul ps_s (ps_c (A p q)) k + (if p = q then ps_c 1 else ps_c 0) k := by
    funext k
    show (if p = q then ps_c 1 else ps_c 0) k - ps_mul ps_s (ps_c (A p q)) k = _
    omega
  rw [e, ps_lin, ps_assoc]
  have e1 : ps_mul ps_s (ps_mul (ps_c (A p q)) w) m = if m = 0 then 0 else A p q * w (m - 1) := by
    match m with
    | 0 => rw [if_pos rfl, ps_mul_s0]
    | m + 1 => rw [if_neg (Nat.succ_ne_zero m), ps_mul_s, ps_mul_c, Nat.add_sub_cancel]
  have e2 : ps_mul (if p = q then ps_c 1 else ps_c 0) w m = if p = q then w m else 0 := by
    by_cases h : p = q
    · rw [if_pos h, if_pos h, ps_mul_c, Int.one_mul]
    · rw [if_neg h, if_neg h, ps_mul_c, Int.zero_mul]
  rw [e1, e2]
  omega
/-- Cayley and Hamilton, a column: Horner's vectors over the right side e_v end in 0 -/
theorem ch_col (A : Nat → Nat → Int) {l : List Nat} (hn : l.Nodup) : (∀ m, l.length < m → ch_P A l m = 0) ∧ ∀ v ∈ l, ∃ w : Nat → Nat → Int, (∀ p m, l.length ≤ m → w p m = 0) ∧ (∀ m, w v m = ch_P A (l.erase v) m) ∧ (∀ p ∈ l, w p 0 = if p = v then ch_P A l 0 else 0) ∧ ∀ p ∈ l, ∀ m, w p (m + 1) = mx_sum l (fun q => A p q * w q m) + if p = v then ch_P A l (m + 1) else 0 := by
  obtain ⟨h1, h2⟩ := @mx_adj ps_T ps_ring _ _ ps_H _ _ _ ps_G rfl A l.length l rfl hn
  refine ⟨fun m hm => h1 m hm, fun v hv => ?_⟩
  obtain ⟨w, a1, a2, a3⟩ := h2 v hv
  have key : ∀ p ∈ l, ∀ m, w p m - (if m = 0 then 0 else mx_sum l (fun q => A p q * w q (m - 1))) = if p = v then ch_P A l m else 0 := by
    intro p hp m
    have e := congrFun (a3 p hp) m
    rw [ps_sum_at] at e
    have e2 : mx_sum l (fun q => ps_mul (@mx_M ps_T ps_ring ps_c ps_s A p q) (w q) m) = (if p = v then @mx_piv ps_T ps_ring ps_inv l (@mx_M ps_T ps_ring ps_c ps_s A) else ps_c 0) m := e
    rw [mx_sum_congr (fun q _ => ps_M_mul A p q (w q) m), mx_sum_sub, mx_sum_delta hn hp (fun q => w q m)] at e2
    by_cases hm : m = 0
    · simp only [if_pos hm] at e2 ⊢
      rw [mx_sum_zero] at e2
      rw [e2]
      by_cases hpv : p = v
      · rw [if_pos hpv, if_pos hpv]; rfl
      · rw [if_neg hpv, if_neg hpv]; show ps_c 0 m = 0; rw [ps_c_0]
    · simp only [if_neg hm] at e2 ⊢
      rw [e2]
      by_cases hpv : p = v
      · rw [if_pos hpv, if_pos hpv]; rfl
      · rw [if_neg hpv, if_neg hpv]; show ps_c 0 m = 0; rw [ps_c_0]
  refine ⟨fun p m => w p m, fun p m hm => a1 p m hm, fun m => congrFun a2 m, fun p hp => ?_, fun p hp m => ?_⟩
  · have := key p hp 0
    rw [if_pos rfl] at this
    show w p 0 = _
    omega
  · have := key p hp (m + 1)
    rw [if_neg (Nat.succ_ne_zero m), Nat.add_sub_cancel] at this
    show w p (m + 1) = mx_sum l (fun q => A p q * w q m) + _
    omega
/-- Horner's vectors over the right side b -/
def ch_ho (A : Nat → Nat → Int) (l : List Nat) (P : Nat → Int) (b : Nat → Int) : Nat → Nat → Int
  | 0 => fun p => P 0 * b p
  | m + 1 => fun p => mx_sum l (fun q => A p q * ch_ho A l P b m q) + P (m + 1) * b p
theorem ch_end (A : Nat → Nat → Int) {l : List Nat} (hn : l.Nodup) (b : Nat → Int) : ∀ p ∈ l, ∀ m, l.length ≤ m → ch_ho A l (ch_P A l) b m p = 0 := by
  obtain ⟨_, h2⟩ := ch_col A hn
  have hch : ∀ v, ∃ w : Nat → Nat → Int, v ∈ l → ((∀ p m, l.length ≤ m → w p m = 0) ∧ (∀ p ∈ l, w p 0 = if p = v then ch_P A l 0 else 0) ∧ ∀ p ∈ l, ∀ m, w p (m + 1) = mx_sum l (fun q => A p q * w q m) + if p = v then ch_P A l (m + 1) else 0) := by
    intro v
    by_cases hv : v ∈ l
    · obtain ⟨w, a, _, b, c⟩ := h2 v hv
      exact ⟨w, fun _ => ⟨a, b, c⟩⟩
    · exact ⟨fun _ _ => 0, fun h => absurd h hv⟩
  obtain ⟨W, hW⟩ := Classical.axiomOfChoice hch
  have key : ∀ m, ∀ p ∈ l, ch_ho A l (ch_P A l) b m p = mx_sum l (fun v => b v * W v p m) := by
    intro m
    induction m with
    | zero =>
      intro p hp
      have e : mx_sum l (fun v => b v * W v p 0) = mx_sum l (fun v => if p = v then ch_P A l 0 * b v else 0) := by
        refine mx_sum_congr (fun v hv => ?_)
        rw [(hW v hv).2.1 p hp]
        by_cases h : p = v
        · rw [if_pos h, if_pos h, Int.mul_comm]
        · rw [if_neg h, if_neg h, Int.mul_zero]
      rw [e, mx_sum_delta hn hp]; rfl
    | succ m ih =>
      intro p hp
      have e : mx_sum l (fun v => b v * W v p (m + 1)) = mx_sum l (fun v => b v * mx_sum l (fun q => A p q * W v q m) + if p = v then ch_P A l (m + 1) * b v else 0) := by
        refine mx_sum_congr (fun v hv => ?_)
        rw [(hW v hv).2.2 p hp m]
        by_cases h : p = v
        · rw [if_pos h, if_pos h]; grind
        · rw [if_neg h, if_neg h]; grind
      rw [e, mx_sum_add, mx_sum_delta hn hp]
      show mx_sum l (fun q => A p q * ch_ho A l (ch_P A l) b m q) + ch_P A l (m + 1) * b p = _
      have e2 : mx_sum l (fun q => A p q * ch_ho A l (ch_P A l) b m q) = mx_sum l (fun q => mx_sum l (fun v => b v * (A p q * W v q m))) := by
        refine mx_sum_congr (fun q hq => ?_)
        rw [ih q hq, ← mx_sum_mul]
        exact mx_sum_congr (fun v _ => by grind)
      have e3 : mx_sum l (fun v => b v * mx_sum l (fun q => A p q * W v q m)) = mx_sum l (fun v => mx_sum l (fun q => b v * (A p q * W v q m))) := mx_sum_congr (fun v _ => (mx_sum_mul _ _ _).symm)
      rw [e2, e3, mx_sum_swap]
  intro p hp m hm
  rw [key m p hp, mx_sum_congr (g := fun _ => 0) (fun v hv => by rw [(hW v hv).1 p m hm, Int.mul_zero]), mx_sum_zero]
/-- powers of A on a column, inside l -/
def ch_pw (A : Nat → Nat → Int) (l : List Nat) (c : Nat → Int) : Nat → Nat → Int
  | 0 => c
  | k + 1 => fun p => mx_sum l (fun q => A p q * ch_pw A l c k q)
/-- what one more row and column multiplies the polynomial by -/
def ch_g (A : Nat → Nat → Int) (l : List Nat) (i : Nat) : Nat → Int
  | 0 => 1
  | 1 => - A i i
  | k + 2 => - mx_sum l (fun q => A i q * ch_pw A l (fun p => A p i) k q)
theorem ch_grow (A : Nat → Nat → Int) {l : List Nat} (hn : l.Nodup) {i : Nat} (hi : i ∉ l) : ch_P A (l ++ [i]) = ps_mul (ch_P A l) (ch_g A l i) := by
  have hX : ∀ p ∈ l, @mx_M ps_T ps_ring ps_c ps_s A p i = @mx_sum ps_T ps_ring l (fun q => (ps_ring.toRing.toSemiring.toMul.mul (@mx_M ps_T ps_ring ps_c ps_s A p q) (fun m => if m = 0 then 0 else - ch_pw A l (fun p => A p i) (m - 1) q))) := by
    intro p hp
    funext m
    rw [ps_sum_at]
    have e0 : @mx_M ps_T ps_ring ps_c ps_s A p i m = if m = 1 then - A p i else 0 := by
      show (if p = i then ps_c 1 else ps_c 0) m - ps_mul ps_s (ps_c (A p i)) m = _
      rw [if_neg (mx_ne hi hp), ps_c_0]
      match m with
      | 0 => rw [ps_mul_s0]; rfl
      | 1 => rw [ps_mul_s, if_pos rfl]; show (0 : Int) - A p i = _; omega
      | m + 2 => rw [ps_mul_s, if_neg (by omega)]; show (0 : Int) - 0 = 0; rfl
    have e1 : mx_sum l (fun q => ps_mul (@mx_M ps_T ps_ring ps_c ps_s A p q) (fun m => if m = 0 then 0 else - ch_pw A l (fun p => A p i) (m - 1) q) m) = mx_sum l (fun q => (if p = q then (if m = 0 then 0 else - ch_pw A l (fun p => A p i) (m - 1) q) else 0) - (if m = 0 then 0 else A p q * (if m - 1 = 0 then 0 else - ch_pw A l (fun p => A p i) (m - 1 - 1) q))) := mx_sum_congr (fun q _ => ps_M_mul A p q _ m)
    refine Eq.trans e0 (Eq.trans ?_ e1.symm)
    rw [mx_sum_sub, mx_sum_delta hn hp (fun q => if m = 0 then 0 else - ch_pw A l (fun p => A p i) (m - 1) q)]
    match m with
    | 0 =>
      have : mx_sum l (fun q => if 0 = 0 then 0 else A p q * (if 0 - 1 = 0 then 0 else - ch_pw A l (fun p => A p i) (0 - 1 - 1) q)) = 0 := by
        rw [mx_sum_congr (g := fun _ => 0) (fun q _ => if_pos rfl), mx_sum_zero]
      rw [this, if_neg (by omega), if_pos rfl]; rfl
    | 1 =>
      have : mx_sum l (fun q => if 1 = 0 then 0 else A p q * (if 1 - 1 = 0 then 0 else - ch_pw A l (fun p => A p i) (1 - 1 - 1) q)) = 0 := by
        rw [mx_sum_congr (g := fun _ => 0) (fun q _ => by rw [if_neg (by omega), if_pos rfl, Int.mul_zero]), mx_sum_zero]
      rw [this, if_pos rfl, if_neg (by omega)]
      show - A p i = - A p i - 0
      omega
    | m + 2 =>
      have : mx_sum l (fun q => if m + 2 = 0 then 0 else A p q * (if m + 2 - 1 = 0 then 0 else - ch_pw A l (fun p => A p i) (m + 2 - 1 - 1) q)) = - ch_pw A l (fun p => A p i) (m + 1) p := by
        show _ = - mx_sum l (fun q => A p q * ch_pw A l (fun p => A p i) m q)
        have e9 : - mx_sum l (fun q => A p q * ch_pw A l (fun p => A p i) m q) = (-1) * mx_sum l (fun q => A p q * ch_pw A l (fun p => A p i) m q) := by omega
        rw [e9, ← mx_sum_mul]
        refine mx_sum_congr (fun q _ => ?_)
        rw [if_neg (by omega), if_neg (by omega)]
        show A p q * - ch_pw A l (fun p => A p i) m q = _
        grind
      rw [this, if_neg (by omega), if_neg (by omega)]
      show (0 : Int) = - ch_pw A l (fun p => A p i) (m + 1) p - - ch_pw A l (fun p => A p i) (m + 1) p
      omega
  have hE := @mx_col ps_T ps_ring _ _ ps_H (fun q => fun m => if m = 0 then 0 else - ch_pw A l (fun p => A p i) (m - 1) q) i l (@mx_M ps_T ps_ring ps_c ps_s A) hn (@mx_ok_M ps_T ps_ring _ _ ps_H ps_c ps_s rfl A l) hX i
  have hg : @mx_els ps_T ps_ring ps_inv l (@mx_M ps_T ps_ring ps_c ps_s A) i i = ch_g A l i := by
    refine hE.trans (funext fun m => ?_)
    show @mx_M ps_T ps_ring ps_c ps_s A i i m - (@mx_sum ps_T ps_ring l _) m = _
    rw [ps_sum_at]
    have e0 : @mx_M ps_T ps_ring ps_c ps_s A i i m = (if m = 0 then 1 else 0) - if m = 1 then A i i else 0 := by
      show (if i = i then ps_c 1 else ps_c 0) m - ps_mul ps_s (ps_c (A i i)) m = _
      rw [if_pos rfl]
      match m with
      | 0 => rw [ps_mul_s0]; rfl
      | 1 => rw [ps_mul_s]; rfl
      | m + 2 => rw [ps_mul_s]; rfl
    have e1 : mx_sum l (fun q => ps_mul (@mx_M ps_T ps_ring ps_c ps_s A i q) (fun m => if m = 0 then 0 else - ch_pw A l (fun p => A p i) (m - 1) q) m) = mx_sum l (fun q => - (if m = 0 then 0 else A i q * (if m - 1 = 0 then 0 else - ch_pw A l (fun p => A p i) (m - 1 - 1) q))) := by
      refine mx_sum_congr (fun q hq => ?_)
      rw [ps_M_mul, if_neg (mx_ne hi hq).symm]
      omega
    rw [e0]
    refine Eq.trans (congrArg (fun z => _ - z) e1) ?_
    match m with
    | 0 =>
      rw [mx_sum_congr (g := fun _ => 0) (fun q _ => by rw [if_pos rfl]; rfl), mx_sum_zero]; rfl
    | 1 =>
      rw [mx_sum_congr (g := fun _ => 0) (fun q _ => by rw [if_neg (by omega), if_pos rfl, Int.mul_zero]; rfl), mx_sum_zero]
      show (0 : Int) - A i i - 0 = - A i i
      omega
    | m + 2 =>
      rw [mx_sum_congr (g := fun q => A i q * ch_pw A l (fun p => A p i) m q) (fun q _ => by
        rw [if_neg (by omega), if_neg (by omega)]
        show - (A i q * - ch_pw A l (fun p => A p i) m q) = _
        grind)]
      show (0 : Int) - 0 - _ = - _
      omega
  show @mx_piv ps_T ps_ring ps_inv (l ++ [i]) (@mx_M ps_T ps_ring ps_c ps_s A) = _
  refine (@mx_piv_app ps_T ps_ring ps_inv i l _).trans ?_
  show ps_mul (ch_P A l) (@mx_els ps_T ps_ring ps_inv l (@mx_M ps_T ps_ring ps_c ps_s A) i i) = _
  rw [hg]
