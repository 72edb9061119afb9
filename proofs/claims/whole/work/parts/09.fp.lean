/-! floats: where no NaN comes -/
def mg (x : UInt32) : Nat := x.toNat % 2 ^ 31
theorem fp_nn {r : UInt32} (h : FP.Core.fIsNaN r = false) : vf_n32 r := by
  have h1 := (FP.Core.notNaN_iff32 r).mp h
  have h2 := (FP.Core.ne_nan32 r).mp h1
  show r &&& 0x7fffffff ≤ 0x7f800000
  rw [UInt32.le_iff_toNat_le, FP.Core.mask_toNat32]
  exact h2
theorem fp_lt {r : UInt32} (h : mg r < 255 * 2 ^ 23) : FP.Core.fIsNaN r = false := (FP.Core.notNaN_iff32 r).mpr ((FP.Core.fin_of_lt32 h (Nat.le_refl _)).elim fun s hs => by obtain ⟨c, q, e⟩ := hs; rw [e]; exact fun z => by cases z)
theorem fp_mul {a b : UInt32} {Ka Kb : Nat} (ha : mg a < Ka * 2 ^ 23) (hb : mg b < Kb * 2 ^ 23) (hKa : Ka ≤ 255) (hKb : Kb ≤ 255) (h : Ka + Kb ≤ 381) : vf_n32 (FP.fmul a b) ∧ mg (FP.fmul a b) < (Ka + Kb - 129 + 3) * 2 ^ 23 := by
  have h1 := FP.Core.fmul_mag ha hb hKa hKb
  refine ⟨fp_nn (fp_lt (Nat.lt_of_lt_of_le h1 ?_)), h1⟩
  exact Nat.mul_le_mul_right _ (by omega)
theorem fp_add {a b : UInt32} {K : Nat} (ha : mg a < K * 2 ^ 23) (hb : mg b < K * 2 ^ 23) (hK : K ≤ 253) : vf_n32 (FP.fadd a b) ∧ mg (FP.fadd a b) < (K + 2) * 2 ^ 23 := by
  have h1 := FP.Core.fadd_mag ha hb (by omega)
  exact ⟨fp_nn (fp_lt (Nat.lt_of_lt_of_le h1 (Nat.mul_le_mul_right _ (by omega)))), h1⟩
theorem fp_sub {a b : UInt32} {K : Nat} (ha : mg a < K * 2 ^ 23) (hb : mg b < K * 2 ^ 23) (hK : K ≤ 253) : vf_n32 (FP.fsub a b) ∧ mg (FP.fsub a b) < (K + 2) * 2 ^ 23 := by
  have h1 := FP.Core.fsub_mag ha hb (by omega)
  exact ⟨fp_nn (fp_lt (Nat.lt_of_lt_of_le h1 (Nat.mul_le_mul_right _ (by omega)))), h1⟩
theorem fp_i2f (x : Int32) : mg (FP.i2f x) < 160 * 2 ^ 23 := FP.Core.i2f_mag x
theorem fp_div {t u : Int32} (hu : ¬ u = 0) : vf_n32 (FP.fdiv (FP.i2f t) (FP.i2f u)) ∧ mg (FP.fdiv (FP.i2f t) (FP.i2f u)) < 161 * 2 ^ 23 := by
  have hb := FP.Core.i2f_big (FP.Core.int32_ne hu)
  have h1 := FP.Core.fdiv_mag (FP.Core.i2f_mag t) hb.1 hb.2 (by decide) (by decide)
  exact ⟨fp_nn (fp_lt (Nat.lt_of_lt_of_le h1 (by decide))), h1⟩
theorem fp_le {x : UInt32} {K M : Nat} (h : mg x < K * 2 ^ 23) (hKM : K ≤ M) : mg x < M * 2 ^ 23 := Nat.lt_of_lt_of_le h (Nat.mul_le_mul_right _ hKM)
theorem fp_c0 : mg FP.fconst0 < 1 * 2 ^ 23 := by decide
theorem fp_c1 : mg FP.fconst1 < 128 * 2 ^ 23 := by decide
theorem fp_c2 : mg FP.fconst2 < 129 * 2 ^ 23 := by decide
/-- a master on its way up, and a going's master -/
def masterR (up t : Int32) : UInt32 := if up = 0 then FP.fconst1 else if Op.cmpValue (FP.fcmp (FP.fdiv (FP.i2f t) (FP.i2f up)) FP.fconst1) .g < 0 then FP.fdiv (FP.i2f t) (FP.i2f up) else FP.fconst1
def fallR (dn t : Int32) : UInt32 := FP.fsub FP.fconst1 (FP.fdiv (FP.i2f t) (FP.i2f dn))
def masterG (up dn we re now : Int32) : UInt32 := if re = -1 then masterR up (now - we) else if dn = 0 then FP.fconst0 else FP.fmul (masterR up (re - we)) (fallR dn (now - re))
theorem masterR_mg (up t : Int32) : mg (masterR up t) < 161 * 2 ^ 23 := by
  unfold masterR
  split
  · exact fp_le fp_c1 (by decide)
  · split
    · exact (fp_div (by assumption)).2
    · exact fp_le fp_c1 (by decide)
theorem fallR_mg {dn : Int32} (t : Int32) (h : ¬ dn = 0) : vf_n32 (fallR dn t) ∧ mg (fallR dn t) < 163 * 2 ^ 23 := fp_sub (fp_le fp_c1 (by decide)) (fp_div h).2 (by decide)
theorem masterG_mul {up dn we re now : Int32} (h : ¬ dn = 0) : vf_n32 (FP.fmul (masterR up (re - we)) (fallR dn (now - re))) := (fp_mul (masterR_mg _ _) (fallR_mg _ h).2 (by decide) (by decide) (by decide)).1
