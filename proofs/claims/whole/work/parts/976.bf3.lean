theorem bf_2 : ∀ k, k < 3 → ((List.range 1024).all (fun g => bfE g (24 + k))) = true := by decide +kernel
