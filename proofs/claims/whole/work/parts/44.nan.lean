/-! a share of the couples is a number -/
theorem kNan : ∀ c, c < 65 → ∀ n, n < 65 → ¬ n ≤ 0 → vf_n64 (FP.ddiv (FP.i2d (nI c)) (FP.i2d (nI n))) := by
  unfold vf_n64
  decide +kernel
