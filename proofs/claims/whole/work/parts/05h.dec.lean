theorem kDc_156_7 : ∀ q ∈ kCode_156_7, decode code q.1 = .ok q.2 := by decide +kernel
