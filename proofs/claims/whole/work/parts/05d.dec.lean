theorem kDc_156_3 : ∀ q ∈ kCode_156_3, decode code q.1 = .ok q.2 := by decide +kernel
