theorem op_inj {a b : Type} {p r : a} {q t : b} (h : some (p, q) = some (r, t)) : p = r ∧ q = t := Prod.mk.inj (Option.some.inj h)
/-! what a mirror takes out of a loop or a call: several things at once -/
def bd1 {a c : Type} (x : Option a) (f : a → Option c) : Option c := x.bind f
theorem op_b1 {a c : Type} {x : Option a} {f : a → Option c} {y : c} (h : bd1 x f = some y) : ∃ p, x = some p ∧ f p = some y := Option.bind_eq_some_iff.mp h
def bd3 {t0 t1 t2 c : Type} (x : Option (t0 × t1 × t2)) (f : t0 → t1 → t2 → Option c) : Option c := match x with | some (p0, p1, p2) => f p0 p1 p2 | none => none
theorem op_b3 {t0 t1 t2 c : Type} {x : Option (t0 × t1 × t2)} {f : t0 → t1 → t2 → Option c} {y : c} (h : bd3 x f = some y) : ∃ p0 p1 p2, x = some (p0, p1, p2) ∧ f p0 p1 p2 = some y := by
  match x, h with
  | some (p0, p1, p2), h => exact ⟨p0, p1, p2, rfl, h⟩
def bd4 {t0 t1 t2 t3 c : Type} (x : Option (t0 × t1 × t2 × t3)) (f : t0 → t1 → t2 → t3 → Option c) : Option c := match x with | some (p0, p1, p2, p3) => f p0 p1 p2 p3 | none => none
theorem op_b4 {t0 t1 t2 t3 c : Type} {x : Option (t0 × t1 × t2 × t3)} {f : t0 → t1 → t2 → t3 → Option c} {y : c} (h : bd4 x f = some y) : ∃ p0 p1 p2 p3, x = some (p0, p1, p2, p3) ∧ f p0 p1 p2 p3 = some y := by
  match x, h with
  | some (p0, p1, p2, p3), h => exact ⟨p0, p1, p2, p3, rfl, h⟩
def bd5 {t0 t1 t2 t3 t4 c : Type} (x : Option (t0 × t1 × t2 × t3 × t4)) (f : t0 → t1 → t2 → t3 → t4 → Option c) : Option c := match x with | some (p0, p1, p2, p3, p4) => f p0 p1 p2 p3 p4 | none => none
theorem op_b5 {t0 t1 t2 t3 t4 c : Type} {x : Option (t0 × t1 × t2 × t3 × t4)} {f : t0 → t1 → t2 → t3 → t4 → Option c} {y : c} (h : bd5 x f = some y) : ∃ p0 p1 p2 p3 p4, x = some (p0, p1, p2, p3, p4) ∧ f p0 p1 p2 p3 p4 = some y := by
  match x, h with
  | some (p0, p1, p2, p3, p4), h => exact ⟨p0, p1, p2, p3, p4, rfl, h⟩
def bd6 {t0 t1 t2 t3 t4 t5 c : Type} (x : Option (t0 × t1 × t2 × t3 × t4 × t5)) (f : t0 → t1 → t2 → t3 → t4 → t5 → Option c) : Option c := match x with | some (p0, p1, p2, p3, p4, p5) => f p0 p1 p2 p3 p4 p5 | none => none
theorem op_b6 {t0 t1 t2 t3 t4 t5 c : Type} {x : Option (t0 × t1 × t2 × t3 × t4 × t5)} {f : t0 → t1 → t2 → t3 → t4 → t5 → Option c} {y : c} (h : bd6 x f = some y) : ∃ p0 p1 p2 p3 p4 p5, x = some (p0, p1, p2, p3, p4, p5) ∧ f p0 p1 p2 p3 p4 p5 = some y := by
  match x, h with
  | some (p0, p1, p2, p3, p4, p5), h => exact ⟨p0, p1, p2, p3, p4, p5, rfl, h⟩
