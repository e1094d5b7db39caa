theorem SK_ld (z : gS) (c : Nat) (f : Nat → Int32) (mk nb : Nat) (pt fi se st hd sp : Nat → Nat) (h : SKd z mk nb pt fi se st hd sp) : SKd (s_I z (c + 28) f) mk nb pt fi se st hd sp := by
  obtain ⟨h1, h2, h3, h4, ⟨h5, h6, h7⟩, h8, h9, h10, h11, h12⟩ := h
  exact ⟨h1, h2, h3, fun i hi => by rw [sI_ne _ _ (by omega)]; exact h4 i hi, ⟨h5, fun i hi => by rw [sI_ne _ _ (by omega)]; exact h6 i hi, fun j hj => by rw [sI_ne _ _ (by omega)]; exact h7 j hj⟩, h8, h9, h10, h11, h12⟩
theorem iv_0 : iv SKd zI zJ := by
  refine ⟨0, 0, fun _ => 0, fun _ => 0, fun _ => 0, fun _ => 0, fun _ => 0, fun _ => 0, fun _ => 0, fun _ _ => 0, ⟨⟨by decide, by decide, rfl, rfl, rfl⟩, fun n _ => ?_, fun n _ => ⟨rfl, rfl, rfl, rfl, show (0 : Nat) < 5 by decide, show (0 : Nat) < 5 by decide⟩, fun i hi => absurd hi (Nat.not_lt_zero i), fun d _ => ⟨rfl, rfl, show (0 : Nat) ≤ 1 by decide⟩, fun d _ => ⟨rfl, rfl, show (-9 : Int) ≤ 0 by decide, show (0 : Int) ≤ 9 by decide⟩, fun d _ => ⟨rfl, rfl, show (0 : Nat) ≤ 3 by decide⟩, fun c _ d _ => ⟨rfl, rfl, show (-99 : Int) ≤ 0 by decide, show (0 : Int) ≤ 99 by decide⟩⟩, Or.inl ⟨rfl, rfl⟩⟩
  rw [Nat.zero_div]
  rfl
theorem pu_all : ∃ Inv : gS → gS → Prop, pu_ok Inv ∧ Inv zI zJ := ⟨iv SKd, ⟨fun _ _ _ _ _ h => ok_node h, fun _ _ _ _ _ h => ok_bar h, fun _ _ _ h => ok_unbar h, fun _ _ _ _ _ _ h h3 => ok_hold h h3, fun _ _ _ _ _ h => ok_spring h, fun _ _ _ _ _ _ h => ok_load SK_ld h, fun _ _ h => ok_solve h, fun _ _ h => ok_open h, fun _ _ _ _ _ _ h => ok_displacement h, fun _ _ _ _ _ h => ok_force h, fun _ _ _ _ _ _ h => ok_reaction h, fun _ _ _ _ _ _ h => ok_combined h, fun _ _ h => ok_determinant h, fun _ _ _ h => ok_order h, fun _ _ _ _ h => ok_unknown h, fun _ _ _ h => ok_count h⟩, iv_0⟩
/-- THE LAW, from its entry -/
theorem whole_start {p : Program} {e : Env} {s : State} {m : MethodId} {below : List Frame} {meth : Method} {c : Code} (l : Launch) {b L : Nat} {xs : Nat → Int32} (hL : L ≤ 2560) (C0 : lw_At p s m meth c b L xs) : W p l e room_1 s m #[Value.ref b] below meth c s.heap [] 0 0 (lw_Z below #[Value.ref b] s) (entryFrame m ([Value.ref b] : List Value).toArray 4) := by
  obtain ⟨Inv, h1, h2⟩ := pu_all
  exact whole_start_open l h1 h2 hL C0
