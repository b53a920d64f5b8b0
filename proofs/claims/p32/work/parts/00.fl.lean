theorem vf_n32_of {a : UInt32} (h : Jvm.FP.Core.fIsNaN a = false) : vf_n32 a := by
  have h1 : ¬ 2139095040 < a.toNat % 2 ^ 31 := fun q => by
    rw [← Jvm.FP.Core.isNaN_bits32, h] at q
    cases q
  show (a &&& 2147483647) ≤ 2139095040
  rw [UInt32.le_iff_toNat_le, UInt32.toNat_and]
  have e : (2147483647 : UInt32).toNat = 2 ^ 31 - 1 := rfl
  rw [e, Nat.and_two_pow_sub_one_eq_mod]
  show _ ≤ 2139095040
  omega
theorem vf_n64_of {a : UInt64} (h : Jvm.FP.Core.dIsNaN a = false) : vf_n64 a := by
  have h1 : ¬ 9218868437227405312 < a.toNat % 2 ^ 63 := fun q => by
    rw [← Jvm.FP.Core.isNaN_bits, h] at q
    cases q
  show (a &&& 9223372036854775807) ≤ 9218868437227405312
  rw [UInt64.le_iff_toNat_le, UInt64.toNat_and]
  have e : (9223372036854775807 : UInt64).toNat = 2 ^ 63 - 1 := rfl
  rw [e, Nat.and_two_pow_sub_one_eq_mod]
  show _ ≤ 9218868437227405312
  omega
theorem nan_fdiv {a b : Int64} (hb : b ≠ 0) : Jvm.FP.Core.fIsNaN (FP.fdiv (FP.l2f a) (FP.l2f b)) = false := Jvm.FP.Core.fdiv_out (Jvm.FP.Core.l2f_fin a).notNaN (Jvm.FP.Core.l2f_fin b) (fun q => Jvm.FP.Core.l2f_ne_zero hb ((Jvm.FP.Core.zero_bits232 _).mp q))
theorem nan_ddI {a b : Int32} (hb : b ≠ 0) : Jvm.FP.Core.dIsNaN (FP.ddiv (FP.i2d a) (FP.i2d b)) = false := Jvm.FP.Core.ddiv_out (Jvm.FP.Core.i2d_fin a).notNaN (Jvm.FP.Core.i2d_fin b) (fun q => Jvm.FP.Core.i2d_ne_zero hb ((Jvm.FP.Core.zero_bits2 _).mp q))
theorem nan_ddL {a : Int64} {b : Int32} (hb : b ≠ 0) : Jvm.FP.Core.dIsNaN (FP.ddiv (FP.l2d a) (FP.i2d b)) = false := Jvm.FP.Core.ddiv_out (Jvm.FP.Core.l2d_fin a).notNaN (Jvm.FP.Core.i2d_fin b) (fun q => Jvm.FP.Core.i2d_ne_zero hb ((Jvm.FP.Core.zero_bits2 _).mp q))
theorem vf_f2d {x : UInt32} (h : Jvm.FP.Core.fIsNaN x = false) : vf_n64 (FP.f2d x) := by
  unfold FP.f2d
  rw [h]
  exact vf_n64_of (Jvm.FP.Core.f2d_out h)
