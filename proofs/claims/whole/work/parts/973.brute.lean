/-! Both orders are alike: all graphs on five nodes -/
def nbg (g n : Nat) : Nat := match n with
  | 0 => bt5 g 0 * 2 + bt5 g 1 * 4 + bt5 g 2 * 8 + bt5 g 3 * 16
  | 1 => bt5 g 0 + bt5 g 4 * 4 + bt5 g 5 * 8 + bt5 g 6 * 16
  | 2 => bt5 g 1 + bt5 g 4 * 2 + bt5 g 7 * 8 + bt5 g 8 * 16
  | 3 => bt5 g 2 + bt5 g 5 * 2 + bt5 g 7 * 4 + bt5 g 9 * 16
  | _ => bt5 g 3 + bt5 g 6 * 2 + bt5 g 8 * 4 + bt5 g 9 * 8
def oL (s : Option oS) : Option (List Nat) := match s with
  | some s => some ((List.range s.1).map s.2.1)
  | none => none
def o0 : oS := (0, fun _ => 0, 0)
def bfA (g mk : Nat) : Bool := match oL (rrun (nbg g) mk 20 0 o0) with
  | some l => Nat.beq l.length (pcb mk)
  | none => false
def bfI (g mk : Nat) : Bool := (List.range 5).all (fun n => if bt5 mk n = 1 then Nat.beq (nmk (nbg g n) mk) 0 else Nat.beq (nbg g n) 0)
def bfB (g mk : Nat) : Bool := !(bfI g mk) || (oL (rrun (nbg g) mk 20 0 o0) == oL (prun (nbg g) mk (pcb mk) 0 o0))
