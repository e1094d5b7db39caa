/-! the two stores: the object under proof (1) and the reference (2) -/
def kd1 : Nat → Nat := fun k => if k < 5 then 0 else if k = 9 then 2 else if k < 17 then 1 else if k < 20 then 0 else if k < 28 then 3 else if k < 32 then 1 else if k < 52 then 3 else 0
def ln1 : Nat → Nat := fun k => if k = 12 ∨ k = 13 then 5 else if k = 16 then 4 else if k = 20 ∨ k = 21 then 11 else 10
def kd2 : Nat → Nat := fun k => if k = 0 then 0 else if k = 1 ∨ k = 7 then 2 else if k < 14 then 1 else if k < 16 then 3 else 0
def ln2 : Nat → Nat := fun k => if k = 1 ∨ k = 2 ∨ k = 3 ∨ k = 11 then 5 else if k = 10 then 40 else if k = 13 ∨ k = 15 then 100 else 10
def ob1 (cy : Nat → ClassId) (ad : Nat → Nat) (v : Nat → Int32) (w : Nat → Int64) : Nat → va_E := fun k => match k with
  | 0 => .inr (4, [.ref (ad 1), .ref (ad 2), .ref (ad 3), .ref (ad 4), .int (v 0)])
  | 1 => .inr (3, [.int (v 1), .ref (ad 5), .ref (ad 6), .ref (ad 7), .ref (ad 8), .int (v 2), .ref (ad 9), .ref (ad 10), .ref (ad 11), .ref (ad 17)])
  | 2 => .inr (1, [.ref (ad 12), .int (v 3), .int (v 4), .ref (ad 13), .ref (ad 14), .ref (ad 15), .int (v 5)])
  | 3 => .inr (0, [.ref (ad 18), .ref (ad 19), .int (v 6), .ref (ad 20), .ref (ad 21), .ref (ad 22), .ref (ad 23)])
  | 4 => .inr (2, [.ref (ad 16), .ref (ad 24), .ref (ad 25), .ref (ad 26), .ref (ad 27), .long (w 0)])
  | 17 => .inl (cy 3, 4, .inr (.inr (.inr (.inr (fun i => if i < 4 then some (ad (i + 28)) else none)))))
  | 18 => .inl (cy 4, 10, .inr (.inr (.inr (.inr (fun i => if i < 10 then some (ad (i + 32)) else none)))))
  | 19 => .inl (cy 4, 10, .inr (.inr (.inr (.inr (fun i => if i < 10 then some (ad (i + 42)) else none)))))
  | _ => .inl (cy 0, 0, .inl (fun _ => 0))
def ob2 (cy : Nat → ClassId) (ad : Nat → Nat) (v : Nat → Int32) (w : Nat → Int64) : Nat → va_E := fun k => match k with
  | 0 => .inr (5, [.ref (ad 1), .ref (ad 2), .ref (ad 3), .ref (ad 4), .ref (ad 5), .ref (ad 6), .int (v 0), .ref (ad 7), .ref (ad 8), .ref (ad 9), .ref (ad 10), .int (v 1), .ref (ad 11), .int (v 2), .ref (ad 12), .int (v 3), .ref (ad 13), .ref (ad 14), .ref (ad 15), .long (w 0), .long (w 1)])
  | _ => .inl (cy 0, 0, .inl (fun _ => 0))
abbrev g1 (cy : Nat → ClassId) (ad : Nat → Nat) (z : gS) : Nat → va_E := gE kd1 ln1 cy (ob1 cy ad) z
abbrev g2 (cy : Nat → ClassId) (ad : Nat → Nat) (z : gS) : Nat → va_E := gE kd2 ln2 cy (ob2 cy ad) z
theorem e_g1_0 (cy : Nat → ClassId) (ad : Nat → Nat) (z : gS) : g1 cy ad z 0 = .inr (4, [.ref (ad 1), .ref (ad 2), .ref (ad 3), .ref (ad 4), .int (z.1 0)]) := gE_0 rfl
theorem e_g1_1 (cy : Nat → ClassId) (ad : Nat → Nat) (z : gS) : g1 cy ad z 1 = .inr (3, [.int (z.1 1), .ref (ad 5), .ref (ad 6), .ref (ad 7), .ref (ad 8), .int (z.1 2), .ref (ad 9), .ref (ad 10), .ref (ad 11), .ref (ad 17)]) := gE_0 rfl
theorem e_g1_2 (cy : Nat → ClassId) (ad : Nat → Nat) (z : gS) : g1 cy ad z 2 = .inr (1, [.ref (ad 12), .int (z.1 3), .int (z.1 4), .ref (ad 13), .ref (ad 14), .ref (ad 15), .int (z.1 5)]) := gE_0 rfl
theorem e_g1_3 (cy : Nat → ClassId) (ad : Nat → Nat) (z : gS) : g1 cy ad z 3 = .inr (0, [.ref (ad 18), .ref (ad 19), .int (z.1 6), .ref (ad 20), .ref (ad 21), .ref (ad 22), .ref (ad 23)]) := gE_0 rfl
theorem e_g1_4 (cy : Nat → ClassId) (ad : Nat → Nat) (z : gS) : g1 cy ad z 4 = .inr (2, [.ref (ad 16), .ref (ad 24), .ref (ad 25), .ref (ad 26), .ref (ad 27), .long (z.2.1 0)]) := gE_0 rfl
theorem e_g1_17 (cy : Nat → ClassId) (ad : Nat → Nat) (z : gS) : g1 cy ad z 17 = .inl (cy 3, 4, .inr (.inr (.inr (.inr (fun i => if i < 4 then some (ad (i + 28)) else none))))) := gE_0 rfl
theorem e_g1_18 (cy : Nat → ClassId) (ad : Nat → Nat) (z : gS) : g1 cy ad z 18 = .inl (cy 4, 10, .inr (.inr (.inr (.inr (fun i => if i < 10 then some (ad (i + 32)) else none))))) := gE_0 rfl
theorem e_g1_19 (cy : Nat → ClassId) (ad : Nat → Nat) (z : gS) : g1 cy ad z 19 = .inl (cy 4, 10, .inr (.inr (.inr (.inr (fun i => if i < 10 then some (ad (i + 42)) else none))))) := gE_0 rfl
theorem e_g2_0 (cy : Nat → ClassId) (ad : Nat → Nat) (z : gS) : g2 cy ad z 0 = .inr (5, [.ref (ad 1), .ref (ad 2), .ref (ad 3), .ref (ad 4), .ref (ad 5), .ref (ad 6), .int (z.1 0), .ref (ad 7), .ref (ad 8), .ref (ad 9), .ref (ad 10), .int (z.1 1), .ref (ad 11), .int (z.1 2), .ref (ad 12), .int (z.1 3), .ref (ad 13), .ref (ad 14), .ref (ad 15), .long (z.2.1 0), .long (z.2.1 1)]) := gE_0 rfl
theorem up_S_isSealed (cy : Nat → ClassId) (ad : Nat → Nat) (z : gS) (x : Int32) : va_up (g1 cy ad z) 0 (.inr (4, [.ref (ad 1), .ref (ad 2), .ref (ad 3), .ref (ad 4), .int x])) = g1 cy ad (s_i z 0 x) := gE_ui rfl (fun j => match j with
  | 0 => rfl
  | 1 => rfl
  | 2 => rfl
  | 3 => rfl
  | 4 => rfl
  | 5 => rfl
  | 6 => rfl
  | 7 => rfl
  | 8 => rfl
  | 9 => rfl
  | 10 => rfl
  | 11 => rfl
  | 12 => rfl
  | 13 => rfl
  | 14 => rfl
  | 15 => rfl
  | 16 => rfl
  | 17 => rfl
  | 18 => rfl
  | 19 => rfl
  | q + 20 => rfl)
theorem up_T_there (cy : Nat → ClassId) (ad : Nat → Nat) (z : gS) (x : Int32) : va_up (g1 cy ad z) 1 (.inr (3, [.int x, .ref (ad 5), .ref (ad 6), .ref (ad 7), .ref (ad 8), .int (z.1 2), .ref (ad 9), .ref (ad 10), .ref (ad 11), .ref (ad 17)])) = g1 cy ad (s_i z 1 x) := gE_ui rfl (fun j => match j with
  | 0 => rfl
  | 1 => rfl
  | 2 => rfl
  | 3 => rfl
  | 4 => rfl
  | 5 => rfl
  | 6 => rfl
  | 7 => rfl
  | 8 => rfl
  | 9 => rfl
  | 10 => rfl
  | 11 => rfl
  | 12 => rfl
  | 13 => rfl
  | 14 => rfl
  | 15 => rfl
  | 16 => rfl
  | 17 => rfl
  | 18 => rfl
  | 19 => rfl
  | q + 20 => rfl)
theorem up_T_barCount (cy : Nat → ClassId) (ad : Nat → Nat) (z : gS) (x : Int32) : va_up (g1 cy ad z) 1 (.inr (3, [.int (z.1 1), .ref (ad 5), .ref (ad 6), .ref (ad 7), .ref (ad 8), .int x, .ref (ad 9), .ref (ad 10), .ref (ad 11), .ref (ad 17)])) = g1 cy ad (s_i z 2 x) := gE_ui rfl (fun j => match j with
  | 0 => rfl
  | 1 => rfl
  | 2 => rfl
  | 3 => rfl
  | 4 => rfl
  | 5 => rfl
  | 6 => rfl
  | 7 => rfl
  | 8 => rfl
  | 9 => rfl
  | 10 => rfl
  | 11 => rfl
  | 12 => rfl
  | 13 => rfl
  | 14 => rfl
  | 15 => rfl
  | 16 => rfl
  | 17 => rfl
  | 18 => rfl
  | 19 => rfl
  | q + 20 => rfl)
theorem up_N_placed (cy : Nat → ClassId) (ad : Nat → Nat) (z : gS) (x : Int32) : va_up (g1 cy ad z) 2 (.inr (1, [.ref (ad 12), .int x, .int (z.1 4), .ref (ad 13), .ref (ad 14), .ref (ad 15), .int (z.1 5)])) = g1 cy ad (s_i z 3 x) := gE_ui rfl (fun j => match j with
  | 0 => rfl
  | 1 => rfl
  | 2 => rfl
  | 3 => rfl
  | 4 => rfl
  | 5 => rfl
  | 6 => rfl
  | 7 => rfl
  | 8 => rfl
  | 9 => rfl
  | 10 => rfl
  | 11 => rfl
  | 12 => rfl
  | 13 => rfl
  | 14 => rfl
  | 15 => rfl
  | 16 => rfl
  | 17 => rfl
  | 18 => rfl
  | 19 => rfl
  | q + 20 => rfl)
theorem up_N_taken (cy : Nat → ClassId) (ad : Nat → Nat) (z : gS) (x : Int32) : va_up (g1 cy ad z) 2 (.inr (1, [.ref (ad 12), .int (z.1 3), .int x, .ref (ad 13), .ref (ad 14), .ref (ad 15), .int (z.1 5)])) = g1 cy ad (s_i z 4 x) := gE_ui rfl (fun j => match j with
  | 0 => rfl
  | 1 => rfl
  | 2 => rfl
  | 3 => rfl
  | 4 => rfl
  | 5 => rfl
  | 6 => rfl
  | 7 => rfl
  | 8 => rfl
  | 9 => rfl
  | 10 => rfl
  | 11 => rfl
  | 12 => rfl
  | 13 => rfl
  | 14 => rfl
  | 15 => rfl
  | 16 => rfl
  | 17 => rfl
  | 18 => rfl
  | 19 => rfl
  | q + 20 => rfl)
theorem up_N_unknowns (cy : Nat → ClassId) (ad : Nat → Nat) (z : gS) (x : Int32) : va_up (g1 cy ad z) 2 (.inr (1, [.ref (ad 12), .int (z.1 3), .int (z.1 4), .ref (ad 13), .ref (ad 14), .ref (ad 15), .int x])) = g1 cy ad (s_i z 5 x) := gE_ui rfl (fun j => match j with
  | 0 => rfl
  | 1 => rfl
  | 2 => rfl
  | 3 => rfl
  | 4 => rfl
  | 5 => rfl
  | 6 => rfl
  | 7 => rfl
  | 8 => rfl
  | 9 => rfl
  | 10 => rfl
  | 11 => rfl
  | 12 => rfl
  | 13 => rfl
  | 14 => rfl
  | 15 => rfl
  | 16 => rfl
  | 17 => rfl
  | 18 => rfl
  | 19 => rfl
  | q + 20 => rfl)
theorem up_E_size (cy : Nat → ClassId) (ad : Nat → Nat) (z : gS) (x : Int32) : va_up (g1 cy ad z) 3 (.inr (0, [.ref (ad 18), .ref (ad 19), .int x, .ref (ad 20), .ref (ad 21), .ref (ad 22), .ref (ad 23)])) = g1 cy ad (s_i z 6 x) := gE_ui rfl (fun j => match j with
  | 0 => rfl
  | 1 => rfl
  | 2 => rfl
  | 3 => rfl
  | 4 => rfl
  | 5 => rfl
  | 6 => rfl
  | 7 => rfl
  | 8 => rfl
  | 9 => rfl
  | 10 => rfl
  | 11 => rfl
  | 12 => rfl
  | 13 => rfl
  | 14 => rfl
  | 15 => rfl
  | 16 => rfl
  | 17 => rfl
  | 18 => rfl
  | 19 => rfl
  | q + 20 => rfl)
theorem up_R_scale (cy : Nat → ClassId) (ad : Nat → Nat) (z : gS) (x : Int64) : va_up (g1 cy ad z) 4 (.inr (2, [.ref (ad 16), .ref (ad 24), .ref (ad 25), .ref (ad 26), .ref (ad 27), .long x])) = g1 cy ad (s_l z 0 x) := gE_ul rfl (fun j => match j with
  | 0 => rfl
  | 1 => rfl
  | 2 => rfl
  | 3 => rfl
  | 4 => rfl
  | 5 => rfl
  | 6 => rfl
  | 7 => rfl
  | 8 => rfl
  | 9 => rfl
  | 10 => rfl
  | 11 => rfl
  | 12 => rfl
  | 13 => rfl
  | 14 => rfl
  | 15 => rfl
  | 16 => rfl
  | 17 => rfl
  | 18 => rfl
  | 19 => rfl
  | q + 20 => rfl)
theorem up_M_bars (cy : Nat → ClassId) (ad : Nat → Nat) (z : gS) (x : Int32) : va_up (g2 cy ad z) 0 (.inr (5, [.ref (ad 1), .ref (ad 2), .ref (ad 3), .ref (ad 4), .ref (ad 5), .ref (ad 6), .int x, .ref (ad 7), .ref (ad 8), .ref (ad 9), .ref (ad 10), .int (z.1 1), .ref (ad 11), .int (z.1 2), .ref (ad 12), .int (z.1 3), .ref (ad 13), .ref (ad 14), .ref (ad 15), .long (z.2.1 0), .long (z.2.1 1)])) = g2 cy ad (s_i z 0 x) := gE_ui rfl (fun j => match j with
  | 0 => rfl
  | q + 1 => rfl)
theorem up_M_sealed (cy : Nat → ClassId) (ad : Nat → Nat) (z : gS) (x : Int32) : va_up (g2 cy ad z) 0 (.inr (5, [.ref (ad 1), .ref (ad 2), .ref (ad 3), .ref (ad 4), .ref (ad 5), .ref (ad 6), .int (z.1 0), .ref (ad 7), .ref (ad 8), .ref (ad 9), .ref (ad 10), .int x, .ref (ad 11), .int (z.1 2), .ref (ad 12), .int (z.1 3), .ref (ad 13), .ref (ad 14), .ref (ad 15), .long (z.2.1 0), .long (z.2.1 1)])) = g2 cy ad (s_i z 1 x) := gE_ui rfl (fun j => match j with
  | 0 => rfl
  | q + 1 => rfl)
theorem up_M_ordered (cy : Nat → ClassId) (ad : Nat → Nat) (z : gS) (x : Int32) : va_up (g2 cy ad z) 0 (.inr (5, [.ref (ad 1), .ref (ad 2), .ref (ad 3), .ref (ad 4), .ref (ad 5), .ref (ad 6), .int (z.1 0), .ref (ad 7), .ref (ad 8), .ref (ad 9), .ref (ad 10), .int (z.1 1), .ref (ad 11), .int x, .ref (ad 12), .int (z.1 3), .ref (ad 13), .ref (ad 14), .ref (ad 15), .long (z.2.1 0), .long (z.2.1 1)])) = g2 cy ad (s_i z 2 x) := gE_ui rfl (fun j => match j with
  | 0 => rfl
  | q + 1 => rfl)
theorem up_M_unknowns (cy : Nat → ClassId) (ad : Nat → Nat) (z : gS) (x : Int32) : va_up (g2 cy ad z) 0 (.inr (5, [.ref (ad 1), .ref (ad 2), .ref (ad 3), .ref (ad 4), .ref (ad 5), .ref (ad 6), .int (z.1 0), .ref (ad 7), .ref (ad 8), .ref (ad 9), .ref (ad 10), .int (z.1 1), .ref (ad 11), .int (z.1 2), .ref (ad 12), .int x, .ref (ad 13), .ref (ad 14), .ref (ad 15), .long (z.2.1 0), .long (z.2.1 1)])) = g2 cy ad (s_i z 3 x) := gE_ui rfl (fun j => match j with
  | 0 => rfl
  | q + 1 => rfl)
theorem up_M_top (cy : Nat → ClassId) (ad : Nat → Nat) (z : gS) (x : Int64) : va_up (g2 cy ad z) 0 (.inr (5, [.ref (ad 1), .ref (ad 2), .ref (ad 3), .ref (ad 4), .ref (ad 5), .ref (ad 6), .int (z.1 0), .ref (ad 7), .ref (ad 8), .ref (ad 9), .ref (ad 10), .int (z.1 1), .ref (ad 11), .int (z.1 2), .ref (ad 12), .int (z.1 3), .ref (ad 13), .ref (ad 14), .ref (ad 15), .long x, .long (z.2.1 1)])) = g2 cy ad (s_l z 0 x) := gE_ul rfl (fun j => match j with
  | 0 => rfl
  | q + 1 => rfl)
theorem up_M_below (cy : Nat → ClassId) (ad : Nat → Nat) (z : gS) (x : Int64) : va_up (g2 cy ad z) 0 (.inr (5, [.ref (ad 1), .ref (ad 2), .ref (ad 3), .ref (ad 4), .ref (ad 5), .ref (ad 6), .int (z.1 0), .ref (ad 7), .ref (ad 8), .ref (ad 9), .ref (ad 10), .int (z.1 1), .ref (ad 11), .int (z.1 2), .ref (ad 12), .int (z.1 3), .ref (ad 13), .ref (ad 14), .ref (ad 15), .long (z.2.1 0), .long x])) = g2 cy ad (s_l z 1 x) := gE_ul rfl (fun j => match j with
  | 0 => rfl
  | q + 1 => rfl)
theorem r28_lt {i : Int32} (h : ¬ (i < 0 ∨ 4 ≤ i.toNatClampNeg)) : i.toNatClampNeg < 4 := Nat.not_le.mp fun q => h (Or.inr q)
theorem r28n {j : Nat} (h : j < 4) : j + 28 < 52 ∧ kd1 (j + 28) = 1 ∧ ln1 (j + 28) = 10 := by
  refine ⟨by omega, ?_, ?_⟩
  · unfold kd1
    repeat (first | rw [if_neg (by omega)] | rw [if_pos (by omega)])
  · unfold ln1
    repeat (first | rw [if_neg (by omega)] | rw [if_pos (by omega)])
theorem r28 {i : Int32} (h : ¬ (i < 0 ∨ 4 ≤ i.toNatClampNeg)) : i.toNatClampNeg + 28 < 52 ∧ kd1 (i.toNatClampNeg + 28) = 1 ∧ ln1 (i.toNatClampNeg + 28) = 10 := r28n (r28_lt h)
theorem r32_lt {i : Int32} (h : ¬ (i < 0 ∨ 10 ≤ i.toNatClampNeg)) : i.toNatClampNeg < 10 := Nat.not_le.mp fun q => h (Or.inr q)
theorem r32n {j : Nat} (h : j < 10) : j + 32 < 52 ∧ kd1 (j + 32) = 3 ∧ ln1 (j + 32) = 10 := by
  refine ⟨by omega, ?_, ?_⟩
  · unfold kd1
    repeat (first | rw [if_neg (by omega)] | rw [if_pos (by omega)])
  · unfold ln1
    repeat (first | rw [if_neg (by omega)] | rw [if_pos (by omega)])
theorem r32 {i : Int32} (h : ¬ (i < 0 ∨ 10 ≤ i.toNatClampNeg)) : i.toNatClampNeg + 32 < 52 ∧ kd1 (i.toNatClampNeg + 32) = 3 ∧ ln1 (i.toNatClampNeg + 32) = 10 := r32n (r32_lt h)
theorem r42_lt {i : Int32} (h : ¬ (i < 0 ∨ 10 ≤ i.toNatClampNeg)) : i.toNatClampNeg < 10 := Nat.not_le.mp fun q => h (Or.inr q)
theorem r42n {j : Nat} (h : j < 10) : j + 42 < 52 ∧ kd1 (j + 42) = 3 ∧ ln1 (j + 42) = 10 := by
  refine ⟨by omega, ?_, ?_⟩
  · unfold kd1
    repeat (first | rw [if_neg (by omega)] | rw [if_pos (by omega)])
  · unfold ln1
    repeat (first | rw [if_neg (by omega)] | rw [if_pos (by omega)])
theorem r42 {i : Int32} (h : ¬ (i < 0 ∨ 10 ≤ i.toNatClampNeg)) : i.toNatClampNeg + 42 < 52 ∧ kd1 (i.toNatClampNeg + 42) = 3 ∧ ln1 (i.toNatClampNeg + 42) = 10 := r42n (r42_lt h)
def nwC (U : State) : Prop := va_Nw (.methodLinkNest RQ_T 56 y_S_slotOf RQ_S) U ∧ va_Nw (.methodLinkNest RQ_N 87 y_S_slotOf RQ_S) U
theorem nwC_ok : nwOk nwC := ⟨fun s U hW h => ⟨va_Nw.warmM hW h.1, va_Nw.warmM hW h.2⟩, fun s U hv h => ⟨va_Nw.same rfl hv h.1, va_Nw.same rfl hv h.2⟩⟩
def nwM (_ : State) : Prop := True
theorem nwM_ok : nwOk nwM := ⟨fun _ _ _ _ => trivial, fun _ _ _ _ => trivial⟩
section WCP
variable {p : Program} {l : Launch} {e : Env} {R : Room} {s : State} {m : MethodId} {args : Array Value} {below : List Frame} {meth : Method} {c : Code} {H : Heap} {locs : List Loc} {cells slots : Nat} {Q : State → Prop}
variable {cc : ByteArray} {pc : Nat} {ls : Array Slot} {rest : List Value} {D : va_G} {cl : List vw_C} {A : Nat → Prop} {H0 : Heap} {n : Nat} {ad : Nat → Nat} {kd ln : Nat → Nat} {cy : Nat → ClassId} {ob : (Nat → Int32) → (Nat → Int64) → Nat → va_E} {z : gS}
theorem wx_copyl (hexec : p.tables.exec = Jvm.exec) (hb : c.code = cc) (hml : c.maxLocals = ls.size) {own : String} {index : Nat} (hown : s.vm.findClass own = some m.cls) (hlink : (Cond.methodLink own index arraycopyName).before args s = true) (hnat : (Cond.native arraycopyName).before args s = true) (hstat : (Cond.static arraycopyName).before args s = true) (hini : (Cond.initialized "java/lang/System").before args s = true)
    (hK : va_K D cl (gTy cy) s) (hP : va_P D cl (wl n ad (gE kd ln cy ob z)) H) (hD : va_D A (wl n ad (gE kd ln cy ob z))) (hS : va_S A H0 H locs) (k0 k1 : Nat) (hk0 : k0 < n) (hk1 : k1 < n) (hd0 : kd k0 = 3) (hd1 : kd k1 = 3) (N0 N1 : Nat) (hN0 : ln k0 = N0) (hN1 : ln k1 = N1)
    {sp dp nn : Int32} (hh : ¬ (sp < 0 ∨ dp < 0 ∨ nn < 0 ∨ N0 < sp.toNatClampNeg + nn.toNatClampNeg ∨ N1 < dp.toNatClampNeg + nn.toNatClampNeg))
    (hframes : 1 ≤ R.frames) (hlocals : (rest.map fun v => v.category).sum + (nativeFrameWords "java/lang/System" "arraycopy" 5 + 11) ≤ R.locals) (hdg : decode cc pc = .ok (.invokestatic index, 3))
    (kk : ∀ (H1 : Heap) (locs1 : List Loc), va_P D cl (wl n ad (gE kd ln cy ob (s_J z k1 (va_cpy (z.2.2.2 k0) (z.2.2.2 k1) sp.toNatClampNeg dp.toNatClampNeg nn.toNatClampNeg)))) H1 → va_S A H0 H1 locs1 → W p l e R s m args below meth c H1 locs1 cells slots Q (F0 m (pc + 3) ls rest)) : W p l e R s m args below meth c H locs cells slots Q (F0 m pc ls (.int nn :: .int dp :: .ref (ad k1) :: .int sp :: .ref (ad k0) :: rest)) := by
  subst hN0
  subst hN1
  refine va_copyl hexec hb hml hown hlink hnat hstat hini hK hP hD hS k0 k1 2 2 (by rw [wl_get hk0, gE_3 hd0]) (by rw [wl_get hk1, gE_3 hd1]) rfl rfl rfl (fun q => hh (Or.inl q)) (fun q => hh (Or.inr (Or.inl q))) (fun q => hh (Or.inr (Or.inr (Or.inl q)))) (Nat.not_lt.mp fun q => hh (Or.inr (Or.inr (Or.inr (Or.inl q))))) (Nat.not_lt.mp fun q => hh (Or.inr (Or.inr (Or.inr (Or.inr q))))) (fun _ _ => rfl) hframes hlocals hdg (fun H1 locs1 h1 _ h3 => ?_)
  rw [wl_set hk1, gE_u3 hd1] at h1
  exact kk H1 locs1 h1 h3
end WCP
