theorem kDc_156_4 : ∀ q ∈ kCode_156_4, decode code q.1 = .ok q.2 := by decide +kernel
