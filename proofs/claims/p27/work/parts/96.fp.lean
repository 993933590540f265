section FPart
theorem dd_n64 {x y : Int32} (hy : y ≠ 0) : vf_n64 (FP.ddiv (FP.i2d x) (FP.i2d y)) := by
  have h := Jvm.FP.Core.ddiv_out (a := FP.i2d x) (b := FP.i2d y) (Jvm.FP.Core.DFin.notNaN (Jvm.FP.Core.i2d_fin x)) (Jvm.FP.Core.i2d_fin y) (fun hz => Jvm.FP.Core.i2d_ne_zero hy ((Jvm.FP.Core.zero_bits2 _).mp hz))
  rw [Jvm.FP.Core.notNaN_iff, Jvm.FP.Core.ne_nan] at h
  show FP.ddiv (FP.i2d x) (FP.i2d y) &&& 0x7fffffffffffffff ≤ 0x7ff0000000000000
  rw [UInt64.le_iff_toNat_le, UInt64.toNat_and, show (0x7fffffffffffffff : UInt64).toNat = 2 ^ 63 - 1 by decide, show (0x7ff0000000000000 : UInt64).toNat = 9218868437227405312 by decide, Nat.and_two_pow_sub_one_eq_mod]
  exact h
end FPart
