/-! pure 4: a quotient of two counts is no NaN -/
theorem div_ok {x y : Nat} (hy : y ≠ 0) (hy2 : y < 2147483648) : vf_n64 (FP.ddiv (FP.i2d (nI x)) (FP.i2d (nI y))) := by
  have hne : nI y ≠ 0 := nI_ne0 (Nat.pos_of_ne_zero hy) hy2
  have hf1 : Jvm.FP.Core.DFin (FP.i2d (nI x)) := Jvm.FP.Core.i2d_fin _
  have hf2 : Jvm.FP.Core.DFin (FP.i2d (nI y)) := Jvm.FP.Core.i2d_fin _
  have hz : ¬ Jvm.FP.Core.DZero (FP.i2d (nI y)) := fun z => Jvm.FP.Core.i2d_ne_zero hne ((Jvm.FP.Core.zero_bits2 _).mp z)
  have hn1 : Jvm.FP.Core.dIsNaN (FP.i2d (nI x)) = false := by
    rw [← Bool.not_eq_true, Jvm.FP.Core.isNaN_bits]
    have := (Jvm.FP.Core.fin_bits _).mp hf1
    omega
  have h := Jvm.FP.Core.ddiv_out hn1 hf2 hz
  have h2 : Jvm.FP.Core.dIsNaN (FP.ddiv (FP.i2d (nI x)) (FP.i2d (nI y))) = false := h
  rw [← Bool.not_eq_true, Jvm.FP.Core.isNaN_bits] at h2
  unfold vf_n64
  rw [UInt64.le_iff_toNat_le, UInt64.toNat_and]
  have h3 : (0x7fffffffffffffff : UInt64).toNat = 2 ^ 63 - 1 := by decide
  have h4 : (0x7ff0000000000000 : UInt64).toNat = 9218868437227405312 := by decide
  rw [h3, h4, Nat.and_two_pow_sub_one_eq_mod]
  omega
theorem nH_lt {sd : Bool} {tg : Nat → Nat} {pr : Nat} {f : Nat → Nat} (ht : ∀ k, tg k < 4096) (hf : ∀ k, f k < 4096) (k : Nat) : nH sd tg pr f k < 4096 := by
  cases sd
  · exact htA_lt ht hf k
  · exact hf k
theorem nH_0 {sd : Bool} {tg : Nat → Nat} {pr : Nat} {f : Nat → Nat} (h0 : f 0 = 0) : nH sd tg pr f 0 = 0 := by
  cases sd
  · show htA tg pr 4096 f 0 = 0
    rw [htA_in (by decide) (ldf_00 pr), hit_0]
  · exact h0
