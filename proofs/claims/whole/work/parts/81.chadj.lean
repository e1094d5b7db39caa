/-! Pure rows: the adjugate of 1 - s A has a degree below the size: Cayley and Hamilton, in any ring with a degree -/
/-- what is asked of 'degree below n' -/
def mx_G {R : Type} [Lean.Grind.CommRing R] (io : Int → R) (s : R) (dl : R → Nat → Prop) : Prop := (∀ n, dl 0 n) ∧ (∀ n, dl 1 (n + 1)) ∧ (∀ f g n, dl f n → dl g n → dl (f + g) n) ∧ (∀ f g n, dl f n → dl g n → dl (f - g) n) ∧ (∀ c f n, dl f n → dl (io c * f) n) ∧ (∀ f n, dl f n → dl (s * f) (n + 1)) ∧ (∀ f n, dl f n → dl f (n + 1))
def mx_M {R : Type} [Lean.Grind.CommRing R] (io : Int → R) (s : R) (A : Nat → Nat → Int) : Nat → Nat → R := fun p q => (if p = q then 1 else 0) - s * io (A p q)
theorem mx_dsum {R : Type} [Lean.Grind.CommRing R] {io : Int → R} {s : R} {dl : R → Nat → Prop} (G : mx_G io s dl) {n : Nat} (l : List Nat) (f : Nat → R) (h : ∀ q ∈ l, dl (f q) n) : dl (mx_sum l f) n := by
  induction l with
  | nil => exact G.1 n
  | cons a t ih => exact G.2.2.1 _ _ _ (h a List.mem_cons_self) (ih (fun q hq => h q (List.mem_cons_of_mem _ hq)))
theorem mx_ok_M {R : Type} [Lean.Grind.CommRing R] {ε : R → Int} {inv : R → R} (H : mx_H ε inv) {io : Int → R} {s : R} (hs : ε s = 0) (A : Nat → Nat → Int) (l : List Nat) : mx_ok ε l (mx_M io s A) := by
  intro i _ j _
  show ε ((if i = j then 1 else 0) - s * io (A i j)) = _
  rw [H.1, H.2.1, hs, Int.zero_mul, Int.sub_zero]
  by_cases h : i = j
  · rw [if_pos h, if_pos h, H.2.2.1]
  · rw [if_neg h, if_neg h]
    have q := H.1 0 0
    rw [show (0 : R) - 0 = 0 from by grind] at q
    omega
theorem mx_epiv {R : Type} [Lean.Grind.CommRing R] {ε : R → Int} {inv : R → R} (H : mx_H ε inv) : ∀ (l : List Nat) (S : Nat → Nat → R), l.Nodup → mx_ok ε l S → ε (mx_piv inv l S) = 1
  | [], _, _, _ => H.2.2.1
  | v :: t, S, hn, ho => by
    obtain ⟨ha, ht⟩ := List.nodup_cons.mp hn
    have e1 := ho v List.mem_cons_self v List.mem_cons_self
    rw [if_pos rfl] at e1
    simp only [mx_piv]
    rw [H.2.1, e1, mx_epiv H t _ ht (mx_ok_el H ha ho)]
    rfl
theorem mx_ne {v p : Nat} {t : List Nat} (hv : v ∉ t) (hp : p ∈ t) : p ≠ v := fun e => hv (by rw [← e]; exact hp)
/-- the last one's column: from the adjugate of the rest -/
theorem mx_adj_last {R : Type} [Lean.Grind.CommRing R] {ε : R → Int} {inv : R → R} (H : mx_H ε inv) {io : Int → R} {s : R} {dl : R → Nat → Prop} (G : mx_G io s dl) (hs : ε s = 0) (A : Nat → Nat → Int) {t : List Nat} {v : Nat} (hn : (v :: t).Nodup) (hP : dl (mx_piv inv t (mx_M io s A)) (t.length + 1))
    (ih : ∀ u ∈ t, ∃ w : Nat → R, (∀ p, dl (w p) t.length) ∧ ∀ p ∈ t, mx_sum t (fun q => mx_M io s A p q * w q) = if p = u then mx_piv inv t (mx_M io s A) else 0) :
    ∃ w : Nat → R, (∀ p, dl (w p) (t.length + 1)) ∧ w v = mx_piv inv t (mx_M io s A) ∧ ∀ p ∈ v :: t, mx_sum (v :: t) (fun q => mx_M io s A p q * w q) = if p = v then mx_piv inv (v :: t) (mx_M io s A) else 0 := by
  obtain ⟨hv, ht⟩ := List.nodup_cons.mp hn
  have hch : ∀ u, ∃ w : Nat → R, u ∈ t → ((∀ p, dl (w p) t.length) ∧ ∀ p ∈ t, mx_sum t (fun q => mx_M io s A p q * w q) = if p = u then mx_piv inv t (mx_M io s A) else 0) := by
    intro u
    by_cases hu : u ∈ t
    · obtain ⟨w, hw⟩ := ih u hu
      exact ⟨w, fun _ => hw⟩
    · exact ⟨fun _ => 0, fun h => absurd h hu⟩
  obtain ⟨W, hW⟩ := Classical.axiomOfChoice hch
  have hoT := mx_ok_M (io := io) H hs A t
  have hePv := mx_epiv H t _ ht hoT
  have hPi := H.2.2.2 _ hePv
  have hperm : (v :: t).Perm (t ++ [v]) := (List.perm_append_singleton v t).symm
  have hPv : mx_piv inv (v :: t) (mx_M io s A) = mx_piv inv t (mx_M io s A) * mx_els inv t (mx_M io s A) v v := by
    rw [mx_piv_perm H hperm _ hn (mx_ok_M H hs A _), mx_piv_app]
  generalize hPe : mx_piv inv t (mx_M io s A) = P at *
  have hdc : ∀ q, dl (mx_sum t (fun u => io (A u v) * W u q)) t.length := fun q => mx_dsum G t _ (fun u hu => G.2.2.2.2.1 _ _ _ ((hW u hu).1 q))
  have hcol : ∀ p ∈ t, mx_sum t (fun q => mx_M io s A p q * mx_sum t (fun u => io (A u v) * W u q)) = P * io (A p v) := by
    intro p hp
    have e1 : mx_sum t (fun q => mx_M io s A p q * mx_sum t (fun u => io (A u v) * W u q)) = mx_sum t (fun q => mx_sum t (fun u => mx_M io s A p q * (io (A u v) * W u q))) := mx_sum_congr (fun q _ => (mx_sum_mul _ _ _).symm)
    rw [e1, mx_sum_swap]
    have e2 : mx_sum t (fun u => mx_sum t (fun q => mx_M io s A p q * (io (A u v) * W u q))) = mx_sum t (fun u => if p = u then P * io (A u v) else 0) := by
      refine mx_sum_congr (fun u hu => ?_)
      have e3 : mx_sum t (fun q => mx_M io s A p q * (io (A u v) * W u q)) = mx_sum t (fun q => io (A u v) * (mx_M io s A p q * W u q)) := mx_sum_congr (fun q _ => by grind)
      rw [e3, mx_sum_mul, (hW u hu).2 p hp]
      by_cases hpu : p = u
      · rw [if_pos hpu, if_pos hpu]; grind
      · rw [if_neg hpu, if_neg hpu]; grind
    rw [e2, mx_sum_delta ht hp]
  generalize hwc : (fun q => mx_sum t (fun u => io (A u v) * W u q)) = wc at *
  have hwq : ∀ q, mx_sum t (fun u => io (A u v) * W u q) = wc q := fun q => by rw [← hwc]
  simp only [hwq] at hdc hcol
  have hMv : ∀ p ∈ t, mx_M io s A p v = - (s * io (A p v)) := by
    intro p hp
    show (if p = v then (1 : R) else 0) - s * io (A p v) = _
    rw [if_neg (mx_ne hv hp)]; grind
  have hzt : ∀ p, mx_sum t (fun q => mx_M io s A p q * (if q = v then P else s * wc q)) = s * mx_sum t (fun q => mx_M io s A p q * wc q) := by
    intro p
    rw [← mx_sum_mul]
    refine mx_sum_congr (fun q hq => ?_)
    rw [if_neg (mx_ne hv hq)]; grind
  have hels := mx_col H (fun q => - (s * wc q * inv P)) v t (mx_M io s A) ht hoT (by
    intro p hp
    have e1 : mx_sum t (fun q => mx_M io s A p q * - (s * wc q * inv P)) = mx_sum t (fun q => - (s * inv P) * (mx_M io s A p q * wc q)) := mx_sum_congr (fun q _ => by grind)
    rw [e1, mx_sum_mul, hcol p hp, hMv p hp]
    have e2 : - (s * inv P) * (P * io (A p v)) = - (s * io (A p v)) * (P * inv P) := by grind
    rw [e2, hPi]; grind) v
  refine ⟨fun q => if q = v then P else s * wc q, ?_, if_pos rfl, ?_⟩
  · intro p
    show dl (if p = v then P else s * wc p) _
    by_cases hp : p = v
    · rw [if_pos hp]; exact hP
    · rw [if_neg hp]; exact G.2.2.2.2.2.1 _ _ (hdc p)
  · intro p hp
    show mx_M io s A p v * (if v = v then P else s * wc v) + mx_sum t (fun q => mx_M io s A p q * (if q = v then P else s * wc q)) = _
    rw [if_pos rfl, hzt p]
    rcases List.mem_cons.mp hp with rfl | hp
    · rw [if_pos rfl, hPv, hels]
      have e1 : mx_sum t (fun q => mx_M io s A p q * - (s * wc q * inv P)) = - (s * inv P) * mx_sum t (fun q => mx_M io s A p q * wc q) := by
        rw [← mx_sum_mul]
        exact mx_sum_congr (fun q _ => by grind)
      rw [e1]
      generalize mx_sum t (fun q => mx_M io s A p q * wc q) = z
      have e2 : P * (mx_M io s A p p - - (s * inv P) * z) = P * mx_M io s A p p + (P * inv P) * (s * z) := by grind
      rw [e2, hPi]; grind
    · rw [if_neg (mx_ne hv hp), hcol p hp, hMv p hp]; grind
theorem mx_adj {R : Type} [Lean.Grind.CommRing R] {ε : R → Int} {inv : R → R} (H : mx_H ε inv) {io : Int → R} {s : R} {dl : R → Nat → Prop} (G : mx_G io s dl) (hs : ε s = 0) (A : Nat → Nat → Int) : ∀ (n : Nat) (l : List Nat), l.length = n → l.Nodup → dl (mx_piv inv l (mx_M io s A)) (n + 1) ∧ ∀ v ∈ l, ∃ w : Nat → R, (∀ p, dl (w p) n) ∧ w v = mx_piv inv (l.erase v) (mx_M io s A) ∧ ∀ p ∈ l, mx_sum l (fun q => mx_M io s A p q * w q) = if p = v then mx_piv inv l (mx_M io s A) else 0
  | 0, l, hl, _ => by
    have : l = [] := List.length_eq_zero_iff.mp hl
    subst this
    exact ⟨G.2.1 0, fun v hv => absurd hv List.not_mem_nil⟩
  | n + 1, l, hl, hn => by
    have all : ∀ v ∈ l, ∃ w : Nat → R, (∀ p, dl (w p) (n + 1)) ∧ w v = mx_piv inv (l.erase v) (mx_M io s A) ∧ ∀ p ∈ l, mx_sum l (fun q => mx_M io s A p q * w q) = if p = v then mx_piv inv l (mx_M io s A) else 0 := by
      intro v hv
      have hperm : l.Perm (v :: l.erase v) := List.perm_cons_erase hv
      have hn2 : (v :: l.erase v).Nodup := hperm.nodup_iff.mp hn
      have hlen : (l.erase v).length = n := by
        have := hperm.length_eq
        rw [List.length_cons] at this
        omega
      obtain ⟨h1, h2⟩ := mx_adj H G hs A n (l.erase v) hlen (List.nodup_cons.mp hn2).2
      obtain ⟨w, a1, a2, a3⟩ := mx_adj_last H G hs A hn2 (by rw [hlen]; exact h1) (fun u hu => by
        obtain ⟨w, b1, _, b3⟩ := h2 u hu
        exact ⟨w, by rw [hlen]; exact b1, b3⟩)
      rw [hlen] at a1
      refine ⟨w, a1, a2, fun p hp => ?_⟩
      rw [mx_sum_perm hperm, a3 p (hperm.mem_iff.mp hp), mx_piv_perm H hperm _ hn (mx_ok_M H hs A _)]
    refine ⟨?_, all⟩
    match l, hl with
    | v :: t, hl =>
      obtain ⟨w, a1, _, a3⟩ := all v List.mem_cons_self
      have e := a3 v List.mem_cons_self
      rw [if_pos rfl] at e
      rw [← e]
      refine mx_dsum G _ _ (fun q _ => ?_)
      show dl (((if v = q then 1 else 0) - s * io (A v q)) * w q) _
      have e1 : ((if v = q then (1 : R) else 0) - s * io (A v q)) * w q = (if v = q then w q else 0) - s * (io (A v q) * w q) := by
        by_cases h : v = q
        · rw [if_pos h, if_pos h]; grind
        · rw [if_neg h, if_neg h]; grind
      rw [e1]
      refine G.2.2.2.1 _ _ _ ?_ (G.2.2.2.2.2.1 _ _ (G.2.2.2.2.1 _ _ _ (a1 q)))
      by_cases h : v = q
      · rw [if_pos h]; exact G.2.2.2.2.2.2 _ _ (a1 q)
      · rw [if_neg h]; exact G.1 _
