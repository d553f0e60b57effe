/-! ===== quotients of whole numbers are numbers ===== -/
theorem nan_32 {a b : Int} (ha : 0 ≤ a ∧ a ≤ 4000) (hb : 1 ≤ b ∧ b ≤ 4000) : vf_n32 (FP.fdiv (FP.i2f (iI a)) (FP.i2f (iI b))) := by sorry
theorem nan_64 {a b : Int} (ha : 0 ≤ a ∧ a ≤ 4000) (hb : 1 ≤ b ∧ b ≤ 4000) : vf_n64 (FP.ddiv (FP.i2d (iI a)) (FP.i2d (iI b))) := by sorry
