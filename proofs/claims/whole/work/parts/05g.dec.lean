theorem kDc_156_6 : ∀ q ∈ kCode_156_6, decode code q.1 = .ok q.2 := by decide +kernel
