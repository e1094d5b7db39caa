theorem bf_1 : ∀ k, k < 9 → ((List.range 1024).all (fun g => bfE g (15 + k))) = true := by decide +kernel
