theorem kDc_156_0 : ∀ q ∈ kCode_156_0, decode code q.1 = .ok q.2 := by decide +kernel
