/-! All graphs, all sets of nodes -/
def bfE (g mk : Nat) : Bool := match oL (rrunE (nbg g) mk 20 0 o0) with
  | some l => Nat.beq l.length (pcb mk) && (!(bfI g mk) || (some l == oL (prun (nbg g) mk (pcb mk) 0 o0)))
  | none => false
theorem bf_0 : ∀ mk, mk < 15 → ((List.range 1024).all (fun g => bfE g mk)) = true := by decide +kernel
