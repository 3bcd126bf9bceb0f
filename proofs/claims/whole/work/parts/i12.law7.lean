theorem cmp0 {a : UInt64} (h : vf_n64 a) : Op.cmpValue (FP.dcmp a a) .l = nI 0 := by
  have h1 : a.toNat % 2 ^ 63 ≤ 9218868437227405312 := by
    have h2 : (a &&& 0x7fffffffffffffff).toNat ≤ (0x7ff0000000000000 : UInt64).toNat := UInt64.le_iff_toNat_le.mp h
    rw [UInt64.toNat_and] at h2
    have h3 : (0x7fffffffffffffff : UInt64).toNat = 2 ^ 63 - 1 := by decide
    rw [h3, Nat.and_two_pow_sub_one_eq_mod] at h2
    exact h2
  have h4 : FP.dcmp a a = some .eq := Jvm.FP.Core.dcmp_self ((Jvm.FP.Core.ne_nan a).mpr h1)
  rw [h4]
  rfl
