theorem bf_3 : ∀ k, k < 2 → ((List.range 1024).all (fun g => bfE g (27 + k))) = true := by decide +kernel
