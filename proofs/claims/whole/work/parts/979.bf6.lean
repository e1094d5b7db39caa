theorem bf_5 : ((List.range 1024).all (fun g => bfE g 31)) = true := by decide +kernel
