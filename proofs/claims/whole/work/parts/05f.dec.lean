theorem kDc_156_5 : ∀ q ∈ kCode_156_5, decode code q.1 = .ok q.2 := by decide +kernel
