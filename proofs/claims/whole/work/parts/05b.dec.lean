theorem kDc_156_1 : ∀ q ∈ kCode_156_1, decode code q.1 = .ok q.2 := by decide +kernel
