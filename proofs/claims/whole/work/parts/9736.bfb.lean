theorem bf_b : ((gl 31 10).all (fun g => bfH g 31)) = true := by decide +kernel
theorem bf_all : ∀ mk, mk < 32 → ((gl mk 10).all (fun g => bfH g mk)) = true := fun mk h => by
  by_cases q : mk = 31
  · rw [q]; exact bf_b
  · exact bf_a mk (by omega)
