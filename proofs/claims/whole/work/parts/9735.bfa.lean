theorem bf_a : ∀ mk, mk < 31 → ((gl mk 10).all (fun g => bfH g mk)) = true := by decide +kernel
