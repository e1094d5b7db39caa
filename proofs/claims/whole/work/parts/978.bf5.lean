theorem bf_4 : ∀ k, k < 2 → ((List.range 1024).all (fun g => bfE g (29 + k))) = true := by decide +kernel
