/-! How large a float is: below the K-th power of its kind. No NaN comes up. -/
def mg (K : Nat) (a : UInt32) : Prop := a.toNat % 2 ^ 31 < K * 2 ^ 23
theorem mg_n {K : Nat} {a : UInt32} (h : mg K a) (hK : K ≤ 255) : vf_n32 a := by
  unfold mg at h
  unfold vf_n32
  rw [UInt32.le_iff_toNat_le, UInt32.toNat_and, show (0x7fffffff : UInt32).toNat = 2 ^ 31 - 1 from rfl, Nat.and_two_pow_sub_one_eq_mod, show (0x7f800000 : UInt32).toNat = 255 * 2 ^ 23 from rfl]
  have : K * 2 ^ 23 ≤ 255 * 2 ^ 23 := Nat.mul_le_mul_right _ hK
  omega
theorem mg_le {K L : Nat} {a : UInt32} (h : mg K a) (hK : K ≤ L) : mg L a := Nat.lt_of_lt_of_le h (Nat.mul_le_mul_right _ hK)
theorem mg_sub {K : Nat} {a b : UInt32} (ha : mg K a) (hb : mg K b) (hK : K ≤ 255) : mg (K + 2) (FP.fsub a b) := FP.Core.fsub_mag ha hb hK
theorem mg_add {K : Nat} {a b : UInt32} (ha : mg K a) (hb : mg K b) (hK : K ≤ 255) : mg (K + 2) (FP.fadd a b) := FP.Core.fadd_mag ha hb hK
theorem mg_mul {K L : Nat} {a b : UInt32} (ha : mg K a) (hb : mg L b) (hK : K ≤ 255) (hL : L ≤ 255) : mg (K + L - 129 + 3) (FP.fmul a b) := FP.Core.fmul_mag ha hb hK hL
theorem mg_i2f {x : Int32} (h : ab 9600 x.toInt) : mg 142 (FP.i2f x) := by
  have := FP.Core.fromInt_mag32 (FP.Core.toNat_i2f x) (j := 14) (K := 141) (by obtain ⟨h1, h2⟩ := h; omega) (by decide) (by decide)
  show (FP.Core.i2f x).toNat % 2 ^ 31 < 142 * 2 ^ 23
  omega
theorem mg_12 {a : UInt32} (h : mg 142 a) : mg 140 (FP.fdiv a (1094713344 : UInt32)) := by
  have h2 := FP.Core.fdiv_mag (a := a) (b := 1094713344) (K := 142) (L := 130) h (by decide +kernel) (by decide +kernel) (by decide) (by decide)
  rw [show 142 + (149 - 23 - 1) - 130 + 3 = 140 from rfl] at h2
  exact h2
theorem cmpg_lt {v w : UInt32} (h : ¬ (0 : Int32) ≤ Op.cmpValue (FP.fcmp v w) .g) : FP.fcmp v w = some .lt := by
  cases e : FP.fcmp v w with
  | none => rw [e] at h; exact absurd (by decide) h
  | some o => cases o with
    | lt => rfl
    | eq => rw [e] at h; exact absurd (by decide) h
    | gt => rw [e] at h; exact absurd (by decide) h
theorem mg_and {K : Nat} {a : UInt32} (h : mg K a) : mg K (a &&& 0x7fffffff) := by
  unfold mg at *
  rw [UInt32.toNat_and, show (0x7fffffff : UInt32).toNat = 2 ^ 31 - 1 from rfl, Nat.and_two_pow_sub_one_eq_mod]
  omega
theorem mg_neg {K : Nat} {a : UInt32} (h : mg K a) : mg K (FP.fneg a) := by
  unfold mg at *
  unfold FP.fneg
  rw [UInt32.toNat_xor, Nat.xor_mod_two_pow, show (2147483648 : UInt32).toNat % 2 ^ 31 = 0 from rfl, Nat.xor_zero]
  exact h
theorem mg_k18 : mg 110 (914358272 : UInt32) := by unfold mg; decide
theorem mg_k12 : mg 116 (964689920 : UInt32) := by unfold mg; decide
