/-! All graphs inside a set of nodes: what is looked at -/
def bfS (mk : Nat) (s t : oS) : Bool := Nat.beq s.1 (pcb mk) && Nat.beq t.1 (pcb mk) && (List.range (pcb mk)).all (fun i => Nat.beq (t.2.1 i) (s.2.1 i) && Nat.ble (s.2.1 i) 4 && (List.range i).all (fun j => !(Nat.beq (s.2.1 i) (s.2.1 j)))) && (List.range 5).all (fun n => Nat.beq (bt5 mk n) 0 || (List.range (pcb mk)).any (fun i => Nat.beq (s.2.1 i) n))
def bfH (g mk : Nat) : Bool := match rrunE (nbg g) mk 20 0 o0, prun (nbg g) mk (pcb mk) 0 o0 with
  | some s, some t => bfS mk s t
  | _, _ => false
def eAB : Nat → Nat × Nat
  | 0 => (0, 1)
  | 1 => (0, 2)
  | 2 => (0, 3)
  | 3 => (0, 4)
  | 4 => (1, 2)
  | 5 => (1, 3)
  | 6 => (1, 4)
  | 7 => (2, 3)
  | 8 => (2, 4)
  | _ => (3, 4)
/-- the graphs inside -/
def gl (mk : Nat) : Nat → List Nat
  | 0 => [0]
  | k + 1 => if bt5 mk (eAB k).1 = 1 ∧ bt5 mk (eAB k).2 = 1 then gl mk k ++ (gl mk k).map (fun g => g + 2 ^ k) else gl mk k
def gsum (b : Nat → Nat) : Nat → Nat
  | 0 => 0
  | k + 1 => gsum b k + b k * 2 ^ k
theorem gl_mem {mk : Nat} {b : Nat → Nat} (hb : ∀ i, b i ≤ 1) (h : ∀ i, i < 10 → b i = 1 → bt5 mk (eAB i).1 = 1 ∧ bt5 mk (eAB i).2 = 1) : ∀ k, k ≤ 10 → gsum b k ∈ gl mk k
  | 0, _ => List.mem_singleton_self 0
  | k + 1, hk => by
    have ih := gl_mem hb h k (by omega)
    have e : gl mk (k + 1) = (if bt5 mk (eAB k).1 = 1 ∧ bt5 mk (eAB k).2 = 1 then gl mk k ++ (gl mk k).map (fun g => g + 2 ^ k) else gl mk k) := rfl
    have e2 : gsum b (k + 1) = gsum b k + b k * 2 ^ k := rfl
    rw [e, e2]
    have h01 : b k = 0 ∨ b k = 1 := by have := hb k; omega
    rcases h01 with q | q
    · rw [q, Nat.zero_mul, Nat.add_zero]
      by_cases c : bt5 mk (eAB k).1 = 1 ∧ bt5 mk (eAB k).2 = 1
      · rw [if_pos c]
        exact List.mem_append.mpr (Or.inl ih)
      · rw [if_neg c]
        exact ih
    · rw [q, Nat.one_mul, if_pos (h k (by omega) q)]
      exact List.mem_append.mpr (Or.inr (List.mem_map.mpr ⟨_, ih, rfl⟩))
