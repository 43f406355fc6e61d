/-! pure 18: a count divided by itself -/
set_option maxRecDepth 100000 in
theorem dv_all : (List.range 256).all (fun n => FP.ddiv (FP.i2d (nI (n + 1))) (FP.i2d (nI (n + 1))) == FP.dconst1) = true := by decide +kernel
theorem dv_self {n : Nat} (h0 : n ≠ 0) (h : n ≤ 256) : FP.ddiv (FP.i2d (nI n)) (FP.i2d (nI n)) = FP.dconst1 := by
  obtain ⟨k, rfl⟩ : ∃ k, n = k + 1 := ⟨n - 1, by omega⟩
  exact beq_iff_eq.mp (List.all_eq_true.mp dv_all k (List.mem_range.mpr (by omega)))
