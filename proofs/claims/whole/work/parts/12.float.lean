/-! single precision: what is held (of magnitude at most 4096), and that nothing here is a NaN -/
def hd32 (x : UInt32) : Prop := x.toNat % 2 ^ 31 ≤ 1166016512
theorem vf_of {r : UInt32} (h : FP.Core.fIsNaN r = false) : vf_n32 r := by
  have h1 : ¬ 2139095040 < r.toNat % 2 ^ 31 := fun q => by
    have := (FP.Core.isNaN_bits32 r).mpr q
    rw [h] at this
    cases this
  unfold vf_n32
  rw [UInt32.le_iff_toNat_le, UInt32.toNat_and]
  have e : (2147483647 : UInt32).toNat = 2 ^ 31 - 1 := rfl
  have e2 : (2139095040 : UInt32).toNat = 2139095040 := rfl
  show r.toNat &&& (2147483647 : UInt32).toNat ≤ (2139095040 : UInt32).toNat
  rw [e, e2, Nat.and_two_pow_sub_one_eq_mod]
  omega
theorem hd_fin {x : UInt32} (h : hd32 x) : FP.Core.FFin x := by
  rw [FP.Core.fin_bits32]
  unfold hd32 at h
  omega
theorem fin_8 : FP.Core.FFin 1090519040 := by
  rw [FP.Core.fin_bits32]
  decide
theorem nz_8 : ¬ FP.Core.FZero 1090519040 := by
  rw [FP.Core.zero_bits232]
  decide
theorem fin_1 : FP.Core.FFin FP.fconst1 := by
  rw [FP.Core.fin_bits32]
  decide
theorem nn_tell {x : UInt32} (h : hd32 x) : vf_n32 (FP.fmul x 1090519040) := vf_of (FP.Core.fmul_out (hd_fin h) fin_8)
/-- v eighths -/
def f8 (v : Int32) : UInt32 := FP.fdiv (FP.i2f v) 1090519040
theorem nn_8 (v : Int32) : vf_n32 (FP.fdiv (FP.i2f v) 1090519040) := vf_of (FP.Core.fdiv_out (FP.Core.i2f_fin v).notNaN fin_8 nz_8)
theorem f8_nan (v : Int32) : FP.Core.fIsNaN (f8 v) = false := FP.Core.fdiv_out (FP.Core.i2f_fin v).notNaN fin_8 nz_8
theorem nn_add {x y : UInt32} (h : hd32 x) (hy : FP.Core.fIsNaN y = false) : vf_n32 (FP.fadd x y) := vf_of (FP.Core.fadd_out' (hd_fin h) hy)
theorem nn_div {x : UInt32} {v : Int32} (h : hd32 x) (hv : ¬ v = 0) : vf_n32 (FP.fdiv x (FP.i2f v)) := vf_of (FP.Core.fdiv_out (hd_fin h).notNaN (FP.Core.i2f_fin v) (fun q => FP.Core.i2f_ne_zero hv ((FP.Core.zero_bits232 _).mp q)))
/-- held to -4096 .. 4096 -/
def fHo (x : UInt32) : UInt32 := if FP.fcmp x 3313500160 = some .lt then 3313500160 else if FP.fcmp x 1166016512 = some .gt then 1166016512 else x
theorem cmp_k {x y : UInt32} (hx : FP.Core.fIsNaN x = false) (hy : FP.Core.fIsNaN y = false) : FP.fcmp x y = some (compare (FP.Core.key FP.Core.b32 x.toNat) (FP.Core.key FP.Core.b32 y.toNat)) :=
  FP.Core.cmp_key FP.Core.good_b32 (FP.Core.lt_full32 x) (FP.Core.lt_full32 y) ((FP.Core.notNaN_iff32 x).mp hx) ((FP.Core.notNaN_iff32 y).mp hy)
theorem key_m : FP.Core.key FP.Core.b32 (3313500160 : UInt32).toNat = -1166016512 := by decide +kernel
theorem key_p : FP.Core.key FP.Core.b32 (1166016512 : UInt32).toNat = 1166016512 := by decide +kernel
theorem nan_m : FP.Core.fIsNaN 3313500160 = false := by decide +kernel
theorem nan_p : FP.Core.fIsNaN 1166016512 = false := by decide +kernel
theorem key_mag (x : UInt32) : FP.Core.key FP.Core.b32 x.toNat = (x.toNat % 2 ^ 31 : Nat) ∨ FP.Core.key FP.Core.b32 x.toNat = -((x.toNat % 2 ^ 31 : Nat) : Int) := by
  unfold FP.Core.key FP.Core.signed
  rw [FP.Core.mag_toNat32]
  split
  · exact Or.inr rfl
  · exact Or.inl rfl
theorem cmp_lt {x y : Int} : compare x y = .lt ↔ x < y := by
  rw [Int.compare_eq_lt]
theorem cmp_gt {x y : Int} : compare x y = .gt ↔ y < x := by
  rw [Int.compare_eq_gt]
theorem hd_ho {x : UInt32} (h : FP.Core.fIsNaN x = false) : hd32 (fHo x) := by
  unfold fHo
  rw [cmp_k h nan_m, cmp_k h nan_p, key_m, key_p]
  split
  · unfold hd32; decide
  · split
    · unfold hd32; decide
    · next h1 h2 =>
      rw [Option.some.injEq, cmp_lt] at h1
      rw [Option.some.injEq, cmp_gt] at h2
      unfold hd32
      rcases key_mag x with h3 | h3 <;> omega
theorem ho_id {x : UInt32} (h : hd32 x) : fHo x = x := by
  unfold fHo
  rw [cmp_k (hd_fin h).notNaN nan_m, cmp_k (hd_fin h).notNaN nan_p, key_m, key_p]
  unfold hd32 at h
  rw [if_neg, if_neg]
  · rw [Option.some.injEq, cmp_gt]
    rcases key_mag x with h3 | h3 <;> omega
  · rw [Option.some.injEq, cmp_lt]
    rcases key_mag x with h3 | h3 <;> omega
/-- a quotient by a whole number other than 0 is held where the dividend is -/
theorem hd_div {x : UInt32} {v : Int32} (h : hd32 x) (hv : ¬ v = 0) : hd32 (FP.fdiv x (FP.i2f v)) := by
  have hb : 127 * 2 ^ 23 ≤ (FP.i2f v).toNat % 2 ^ 31 ∧ (FP.i2f v).toNat % 2 ^ 31 < 255 * 2 ^ 23 := FP.Core.i2f_big (FP.Core.int32_ne hv)
  generalize FP.i2f v = y at hb ⊢
  have hf := FP.Core.good_b32
  have h1 : (FP.Core.fdiv x y).toNat = FP.Core.div FP.Core.b32 x.toNat y.toNat := FP.Core.toNat_of32 (FP.Core.quotient_fits hf _ _)
  unfold hd32 at h ⊢
  show (FP.Core.fdiv x y).toNat % 2 ^ 31 ≤ _
  rw [h1, ← FP.Core.half_b32]
  show FP.Core.mag FP.Core.b32 _ ≤ _
  have hx : FP.Core.mag FP.Core.b32 x.toNat ≤ 1166016512 := by rw [FP.Core.mag_toNat32]; exact h
  have hy : 127 * 2 ^ 23 ≤ FP.Core.mag FP.Core.b32 y.toNat := by rw [FP.Core.mag_toNat32]; exact hb.1
  have hy2 : FP.Core.mag FP.Core.b32 y.toNat < FP.Core.infBits FP.Core.b32 := by rw [FP.Core.mag_toNat32, FP.Core.infBits_b32]; have := hb.2; omega
  obtain ⟨s, c, q, x1, x2, x3⟩ := FP.Core.fin_of_mag hf (show FP.Core.mag FP.Core.b32 x.toNat < FP.Core.infBits FP.Core.b32 by rw [FP.Core.infBits_b32]; omega)
  obtain ⟨t, d, r, y1, y2, y3⟩ := FP.Core.fin_of_mag hf hy2
  have hq := FP.Core.qmin_neg hf
  have l2 : FP.Core.b32.tails * 2 ^ (127 - 1) ≤ FP.Core.zmag FP.Core.b32 (.fin t d r) := by
    rw [y3, ← FP.Core.unitsOf_start (by decide : 1 ≤ 127)]
    exact FP.Core.unitsOf_le_iff.mpr (by rw [FP.Core.tails_b32]; exact hy)
  have hd0 : d ≠ 0 := by
    rintro rfl
    have h1 : FP.Core.zmag FP.Core.b32 (.fin t 0 r) = 0 := Nat.zero_mul _
    have := Nat.mul_pos (FP.Core.tails_pos FP.Core.b32) (Nat.two_pow_pos (127 - 1))
    omega
  have hd : FP.Core.decode FP.Core.b32 (FP.Core.div FP.Core.b32 x.toNat y.toNat) = FP.Core.roundRatio FP.Core.b32 (s != t) c d (q - r) := by
    unfold FP.Core.div
    rw [FP.Core.decode_enc hf (FP.Core.quotient_fits hf _ _), x1, y1]
    simp only [FP.Core.quotient, if_neg hd0]
  have hx1 := x2.2.1
  have hy1 := y2.2.1
  refine FP.Core.mag_le hf hd (by omega) (e0 := 2 * FP.Core.b32.qmin - r) (by omega) (by omega) ?_
  have e1 : FP.Core.inUnits c (q - r) (2 * FP.Core.b32.qmin - r) = FP.Core.zmag FP.Core.b32 (.fin s c q) * 2 ^ (-FP.Core.b32.qmin).toNat := by
    show c * _ = c * _ * _
    rw [Nat.mul_assoc, ← Nat.pow_add]; congr 2; omega
  have e2 : 2 ^ (FP.Core.b32.qmin - (2 * FP.Core.b32.qmin - r)).toNat * d = FP.Core.zmag FP.Core.b32 (.fin t d r) := by
    show _ = d * _
    rw [Nat.mul_comm]; congr 2; omega
  rw [e1, Nat.mul_assoc, e2, x3]
  refine Nat.mul_le_mul (FP.Core.unitsOf_le_iff.mpr hx) (Nat.le_trans ?_ l2)
  rw [FP.Core.qmin_b32, FP.Core.tails_b32, ← Nat.pow_add]
  exact Nat.pow_le_pow_right (by decide) (by decide)
theorem hd_0 : hd32 FP.fconst0 := by unfold hd32; decide
theorem f8_8 : f8 8 = FP.fconst1 := by decide +kernel
