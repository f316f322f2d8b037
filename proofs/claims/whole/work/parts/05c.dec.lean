theorem kDc_156_2 : ∀ q ∈ kCode_156_2, decode code q.1 = .ok q.2 := by decide +kernel
