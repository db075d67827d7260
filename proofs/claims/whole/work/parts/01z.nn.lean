/-! whole numbers' quotients are no NaN (Jvm.FP.Core's laws: these names want the whole library) -/
theorem zn64_iff (x : UInt64) : vf_n64 x ↔ x.toNat % 9223372036854775808 ≤ 9218868437227405312 := by
  unfold vf_n64
  rw [UInt64.le_iff_toNat_le, UInt64.toNat_and]
  have h1 : (0x7fffffffffffffff : UInt64).toNat = 2 ^ 63 - 1 := by decide
  have h2 : (0x7ff0000000000000 : UInt64).toNat = 9218868437227405312 := by decide
  rw [h1, h2, Nat.and_two_pow_sub_one_eq_mod]
theorem zn32_iff (x : UInt32) : vf_n32 x ↔ x.toNat % 2147483648 ≤ 2139095040 := by
  unfold vf_n32
  rw [UInt32.le_iff_toNat_le, UInt32.toNat_and]
  have h1 : (0x7fffffff : UInt32).toNat = 2 ^ 31 - 1 := by decide
  have h2 : (0x7f800000 : UInt32).toNat = 2139095040 := by decide
  rw [h1, h2, Nat.and_two_pow_sub_one_eq_mod]
theorem zn64_nan (x : UInt64) : vf_n64 x ↔ FP.dIsNaN x = false := by
  have h := FP.Core.isNaN_bits x
  rw [zn64_iff, ← Bool.not_eq_true, show (FP.dIsNaN x = true) = (FP.Core.dIsNaN x = true) from rfl, h]
  omega
theorem zn32_nan (x : UInt32) : vf_n32 x ↔ FP.fIsNaN x = false := by
  have h := FP.Core.isNaN_bits32 x
  rw [zn32_iff, ← Bool.not_eq_true, show (FP.fIsNaN x = true) = (FP.Core.fIsNaN x = true) from rfl, h]
  omega
theorem zi32_ne {y : Int32} (h : y ≠ 0) : y.toInt ≠ 0 := fun z => h (by
  rw [← Int32.toInt_inj]
  exact z)
theorem zNN0 : (∀ x y : Int32, y ≠ 0 → vf_n64 (FP.ddiv (FP.i2d x) (FP.i2d y))) ∧ (∀ x y : Int32, y ≠ 0 → vf_n32 (FP.fdiv (FP.i2f x) (FP.i2f y))) ∧ (∀ x : UInt32, vf_n32 x → vf_n64 (FP.f2d x)) ∧ ∀ x : UInt64, vf_n64 x → FP.dcmp x x = some .eq := by
  refine ⟨fun x y h => ?_, fun x y h => ?_, fun x h => ?_, fun x h => ?_⟩
  · rw [zn64_iff]
    have a := FP.Core.i2d_mag x
    have b := FP.Core.i2d_big (zi32_ne h)
    have q := FP.Core.ddiv_mag (a := FP.Core.i2d x) (b := FP.Core.i2d y) a b.1 b.2 (by decide) (by decide)
    rw [show FP.ddiv (FP.i2d x) (FP.i2d y) = FP.Core.ddiv (FP.Core.i2d x) (FP.Core.i2d y) from rfl]
    omega
  · rw [zn32_iff]
    have a := FP.Core.i2f_mag x
    have b := FP.Core.i2f_big (zi32_ne h)
    have q := FP.Core.fdiv_mag (a := FP.Core.i2f x) (b := FP.Core.i2f y) a b.1 b.2 (by decide) (by decide)
    rw [show FP.fdiv (FP.i2f x) (FP.i2f y) = FP.Core.fdiv (FP.Core.i2f x) (FP.Core.i2f y) from rfl]
    omega
  · rw [zn64_nan, FP.f2d_nan]
    exact (zn32_nan x).mp h
  · exact FP.Core.dcmp_self ((FP.Core.notNaN_iff x).mp ((zn64_nan x).mp h))
