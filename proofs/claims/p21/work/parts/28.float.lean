/-! floats as whole numbers of their least ones: bounds of what is reckoned -/
def fz (x : UInt32) : Int := FP.Core.zval FP.Core.b32 (FP.Core.val32 x)
def fO : Int := (FP.Core.one32 : Int)
theorem fO_pos : 0 < fO := by have := FP.Core.one32_pos; unfold fO; omega
theorem q32 : FP.Core.b32.qmin = -149 := by decide
theorem signed_mul2 (s t : Bool) (m n : Nat) : FP.Core.signed (s != t) (m * n) = FP.Core.signed s m * FP.Core.signed t n := by
  cases s <;> cases t <;> simp [FP.Core.signed, Int.natCast_mul, Int.mul_neg, Int.neg_mul]
theorem prod_units {s t : Bool} {c d : Nat} {q r : Int} (hx : FP.Core.fits FP.Core.b32 (.fin s c q)) (hy : FP.Core.fits FP.Core.b32 (.fin t d r)) : 2 * FP.Core.b32.qmin ≤ q + r ∧ FP.Core.signed (s != t) (FP.Core.inUnits (c * d) (q + r) (2 * FP.Core.b32.qmin)) = FP.Core.zval FP.Core.b32 (.fin s c q) * FP.Core.zval FP.Core.b32 (.fin t d r) := by
  have h1 := hx.2.1
  have h2 := hy.2.1
  refine ⟨by omega, ?_⟩
  have e : FP.Core.inUnits (c * d) (q + r) (2 * FP.Core.b32.qmin) = FP.Core.inUnits c q FP.Core.b32.qmin * FP.Core.inUnits d r FP.Core.b32.qmin := by
    unfold FP.Core.inUnits
    rw [show (q + r - 2 * FP.Core.b32.qmin).toNat = (q - FP.Core.b32.qmin).toNat + (r - FP.Core.b32.qmin).toNat by omega, Nat.pow_add]
    ac_rfl
  rw [e, signed_mul2]
  rfl
theorem pow_fO : ((2 ^ (FP.Core.b32.qmin - 2 * FP.Core.b32.qmin).toNat : Nat) : Int) = fO := by
  unfold fO
  rw [← FP.Core.pow_qmin32]
  congr 3
theorem fz_mul_le {a b V : UInt32} (ha : FP.Core.FFin a) (hb : FP.Core.FFin b) (hV : FP.Core.val32 V ≠ .nan) (h : fz a * fz b ≤ fz V * fO) : fz (FP.fmul a b) ≤ fz V := by
  obtain ⟨s, c, q, h1⟩ := ha
  obtain ⟨t, d, r, h2⟩ := hb
  have f1 := FP.Core.val32_fits a
  have f2 := FP.Core.val32_fits b
  unfold fz at h ⊢
  rw [h1] at f1 h
  rw [h2] at f2 h
  obtain ⟨p1, p2⟩ := prod_units f1 f2
  show FP.Core.zval FP.Core.b32 (FP.Core.val32 (FP.Core.fmul a b)) ≤ _
  rw [FP.Core.val32_fmul, h1, h2]
  refine FP.Core.zval_round_le FP.Core.good_b32 (FP.Core.val32_fits V) hV (e0 := 2 * FP.Core.b32.qmin) (by rw [q32]; decide) p1 ?_
  rw [p2, pow_fO]
  exact h
theorem fz_mul_ge {a b V : UInt32} (ha : FP.Core.FFin a) (hb : FP.Core.FFin b) (hV : FP.Core.val32 V ≠ .nan) (h : fz V * fO ≤ fz a * fz b) : fz V ≤ fz (FP.fmul a b) := by
  obtain ⟨s, c, q, h1⟩ := ha
  obtain ⟨t, d, r, h2⟩ := hb
  have f1 := FP.Core.val32_fits a
  have f2 := FP.Core.val32_fits b
  unfold fz at h ⊢
  rw [h1] at f1 h
  rw [h2] at f2 h
  obtain ⟨p1, p2⟩ := prod_units f1 f2
  show _ ≤ FP.Core.zval FP.Core.b32 (FP.Core.val32 (FP.Core.fmul a b))
  rw [FP.Core.val32_fmul, h1, h2]
  refine FP.Core.zval_round_ge FP.Core.good_b32 (FP.Core.val32_fits V) hV (e0 := 2 * FP.Core.b32.qmin) (by rw [q32]; decide) p1 ?_
  rw [p2, pow_fO]
  exact h
theorem fz_add_le {a b V : UInt32} (ha : FP.Core.FFin a) (hb : FP.Core.FFin b) (hV : FP.Core.val32 V ≠ .nan) (h : fz a + fz b ≤ fz V) : fz (FP.fadd a b) ≤ fz V := by
  show FP.Core.zval FP.Core.b32 (FP.Core.val32 (FP.Core.fadd a b)) ≤ _
  rw [FP.Core.val32_fadd]
  exact FP.Core.sum_le FP.Core.good_b32 ha hb (FP.Core.val32_fits a) (FP.Core.val32_fits b) (FP.Core.val32_fits V) hV h
theorem fz_add_ge {a b V : UInt32} (ha : FP.Core.FFin a) (hb : FP.Core.FFin b) (hV : FP.Core.val32 V ≠ .nan) (h : fz V ≤ fz a + fz b) : fz V ≤ fz (FP.fadd a b) := by
  show _ ≤ FP.Core.zval FP.Core.b32 (FP.Core.val32 (FP.Core.fadd a b))
  rw [FP.Core.val32_fadd]
  exact FP.Core.sum_ge FP.Core.good_b32 ha hb (FP.Core.val32_fits a) (FP.Core.val32_fits b) (FP.Core.val32_fits V) hV h
theorem neg_fin {b : UInt32} (hb : FP.Core.FFin b) : ∃ s c q, FP.Core.negate (FP.Core.val32 b) = .fin s c q := by
  obtain ⟨s, c, q, h⟩ := hb
  exact ⟨!s, c, q, by rw [h]; rfl⟩
theorem fz_sub_le {a b V : UInt32} (ha : FP.Core.FFin a) (hb : FP.Core.FFin b) (hV : FP.Core.val32 V ≠ .nan) (h : fz a - fz b ≤ fz V) : fz (FP.fsub a b) ≤ fz V := by
  show FP.Core.zval FP.Core.b32 (FP.Core.val32 (FP.Core.fsub a b)) ≤ _
  rw [FP.Core.val32_fsub]
  exact FP.Core.sum_le FP.Core.good_b32 ha (neg_fin hb) (FP.Core.val32_fits a) (FP.Core.negate_fits (FP.Core.val32_fits b)) (FP.Core.val32_fits V) hV (by rw [FP.Core.zval_negate]; unfold fz at h; omega)
theorem fz_sub_ge {a b V : UInt32} (ha : FP.Core.FFin a) (hb : FP.Core.FFin b) (hV : FP.Core.val32 V ≠ .nan) (h : fz V ≤ fz a - fz b) : fz V ≤ fz (FP.fsub a b) := by
  show _ ≤ FP.Core.zval FP.Core.b32 (FP.Core.val32 (FP.Core.fsub a b))
  rw [FP.Core.val32_fsub]
  exact FP.Core.sum_ge FP.Core.good_b32 ha (neg_fin hb) (FP.Core.val32_fits a) (FP.Core.negate_fits (FP.Core.val32_fits b)) (FP.Core.val32_fits V) hV (by rw [FP.Core.zval_negate]; unfold fz at h; omega)
/-- a quotient of two that are above 0 or (the first) 0 -/
theorem div_units {c d V : Nat} {q r : Int} (hq : -149 ≤ q) (hr : -149 ≤ r) (hr2 : r ≤ 200) : (c * 2 ^ (q + 149).toNat * 2 ^ 149 ≤ V * (d * 2 ^ (r + 149).toNat) → FP.Core.inUnits c (q - r) (-600) ≤ V * 2 ^ (-149 - (-600 : Int)).toNat * d) ∧ (V * (d * 2 ^ (r + 149).toNat) ≤ c * 2 ^ (q + 149).toNat * 2 ^ 149 → V * 2 ^ (-149 - (-600 : Int)).toNat * d ≤ FP.Core.inUnits c (q - r) (-600)) := by
  unfold FP.Core.inUnits
  have e1 : c * 2 ^ (q - r - (-600)).toNat = c * 2 ^ (q + 149).toNat * 2 ^ 149 * 2 ^ (302 - r).toNat := by
    rw [show (q - r - (-600)).toNat = (q + 149).toNat + 149 + (302 - r).toNat by omega, Nat.pow_add, Nat.pow_add]
    ac_rfl
  have e2 : V * 2 ^ (-149 - (-600 : Int)).toNat * d = V * (d * 2 ^ (r + 149).toNat) * 2 ^ (302 - r).toNat := by
    rw [show (-149 - (-600 : Int)).toNat = (r + 149).toNat + (302 - r).toNat by omega, Nat.pow_add]
    ac_rfl
  rw [e1, e2]
  exact ⟨fun h => Nat.mul_le_mul_right _ h, fun h => Nat.mul_le_mul_right _ h⟩
/-- finite, and not below 0 -/
def nn (x : UInt32) : Prop := FP.Core.FFin x ∧ FP.Core.sgn (FP.Core.val32 x) = false
theorem nn.ge {x : UInt32} (h : nn x) : 0 ≤ fz x := by
  unfold fz FP.Core.zval
  rw [h.2]
  exact Int.natCast_nonneg _
theorem nn.ne {x : UInt32} (h : nn x) : FP.Core.val32 x ≠ .nan := h.1.ne_nan
theorem fin_mid {x V : UInt32} (hx : FP.Core.val32 x ≠ .nan) (hV : FP.Core.FFin V) (h1 : fz x ≤ fz V) (h2 : -fz V ≤ fz x) : FP.Core.FFin x := by
  have ht := hV.zval_lt
  have hVz : fz V ≤ (FP.Core.zmag FP.Core.b32 (FP.Core.val32 V) : Int) := by
    unfold fz FP.Core.zval
    cases FP.Core.sgn (FP.Core.val32 V) <;> simp [FP.Core.signed] <;> omega
  unfold fz FP.Core.zval at h1 h2
  cases hc : FP.Core.val32 x with
  | nan => exact absurd hc hx
  | inf s =>
    exfalso
    rw [hc] at h1 h2
    have e : FP.Core.zmag FP.Core.b32 (.inf s) = FP.Core.b32.tails * 2 ^ (FP.Core.b32.exps - 2) := rfl
    rw [e] at h1 h2
    unfold fz FP.Core.zval at hVz
    generalize FP.Core.b32.tails * 2 ^ (FP.Core.b32.exps - 2) = top at *
    generalize FP.Core.signed (FP.Core.sgn (FP.Core.val32 V)) (FP.Core.zmag FP.Core.b32 (FP.Core.val32 V)) = v at *
    cases s <;> simp [FP.Core.sgn, FP.Core.signed] at h1 h2 <;> omega
  | fin s c q => exact ⟨s, c, q, hc⟩
theorem out_ne {r : UInt32} (h : FP.Core.fIsNaN r = false) : FP.Core.val32 r ≠ .nan := (FP.Core.notNaN_iff32 r).mp h
theorem ne_mul {a b : UInt32} (ha : FP.Core.FFin a) (hb : FP.Core.FFin b) : FP.Core.val32 (FP.fmul a b) ≠ .nan := out_ne (FP.Core.fmul_out ha hb)
theorem ne_add {a b : UInt32} (ha : FP.Core.FFin a) (hb : FP.Core.FFin b) : FP.Core.val32 (FP.fadd a b) ≠ .nan := out_ne (FP.Core.fadd_out ha.notNaN hb)
theorem ne_sub {a b : UInt32} (ha : FP.Core.FFin a) (hb : FP.Core.FFin b) : FP.Core.val32 (FP.fsub a b) ≠ .nan := out_ne (FP.Core.fsub_out ha.notNaN hb)
theorem vf_of {r : UInt32} (h : FP.Core.val32 r ≠ .nan) : vf_n32 r := fp_nn ((FP.Core.notNaN_iff32 r).mpr h)
theorem sgn_mul {a b : UInt32} (ha : nn a) (hb : nn b) : FP.Core.sgn (FP.Core.val32 (FP.fmul a b)) = false := by
  obtain ⟨⟨s, c, q, h1⟩, s1⟩ := ha
  obtain ⟨⟨t, d, r, h2⟩, s2⟩ := hb
  rw [h1] at s1
  rw [h2] at s2
  show FP.Core.sgn (FP.Core.val32 (FP.Core.fmul a b)) = false
  rw [FP.Core.val32_fmul, h1, h2]
  show FP.Core.sgn (FP.Core.roundRatio FP.Core.b32 (s != t) (c * d) 1 (q + r)) = false
  rw [FP.Core.sgn_roundRatio]
  have e1 : s = false := s1
  have e2 : t = false := s2
  rw [e1, e2]
  rfl
theorem sum_sgn {s t : Bool} {c d : Nat} {q r : Int} (hx : FP.Core.fits FP.Core.b32 (.fin s c q)) (hy : FP.Core.fits FP.Core.b32 (.fin t d r)) (hs : (s && t) = false) (h : 0 ≤ FP.Core.zval FP.Core.b32 (.fin s c q) + FP.Core.zval FP.Core.b32 (.fin t d r)) : FP.Core.sgn (FP.Core.round FP.Core.b32 (FP.Core.exactSum (.fin s c q) (.fin t d r))) = false := by
  have hq := hx.2.1
  have hr := hy.2.1
  show FP.Core.sgn (FP.Core.roundRatio _ _ _ _ _) = false
  rw [FP.Core.sgn_roundRatio]
  unfold FP.Core.sumSign
  split
  · exact hs
  · refine decide_eq_false (fun z => ?_)
    have e1 : FP.Core.zval FP.Core.b32 (.fin s c q) = FP.Core.signed s (FP.Core.inUnits c q (min q r)) * ((2 ^ (min q r - FP.Core.b32.qmin).toNat : Nat) : Int) := by
      show FP.Core.signed s (FP.Core.inUnits c q FP.Core.b32.qmin) = _
      rw [FP.Core.inUnits_move c (q := q) (e := FP.Core.b32.qmin) (r := min q r) (by omega) (by omega), FP.Core.signed_mul]
    have e2 : FP.Core.zval FP.Core.b32 (.fin t d r) = FP.Core.signed t (FP.Core.inUnits d r (min q r)) * ((2 ^ (min q r - FP.Core.b32.qmin).toNat : Nat) : Int) := by
      show FP.Core.signed t (FP.Core.inUnits d r FP.Core.b32.qmin) = _
      rw [FP.Core.inUnits_move d (q := r) (e := FP.Core.b32.qmin) (r := min q r) (by omega) (by omega), FP.Core.signed_mul]
    rw [e1, e2, ← Int.add_mul] at h
    have hp : (0 : Int) < ((2 ^ (min q r - FP.Core.b32.qmin).toNat : Nat) : Int) := by have := Nat.two_pow_pos (min q r - FP.Core.b32.qmin).toNat; omega
    have : FP.Core.sumUnits s c q t d r (min q r) * ((2 ^ (min q r - FP.Core.b32.qmin).toNat : Nat) : Int) < 0 := Int.mul_neg_of_neg_of_pos z hp
    unfold FP.Core.sumUnits at this
    omega
theorem sgn_add {a b : UInt32} (ha : nn a) (hb : FP.Core.FFin b) (h : 0 ≤ fz a + fz b) : FP.Core.sgn (FP.Core.val32 (FP.fadd a b)) = false := by
  obtain ⟨⟨s, c, q, h1⟩, s1⟩ := ha
  obtain ⟨t, d, r, h2⟩ := hb
  have f1 := FP.Core.val32_fits a
  have f2 := FP.Core.val32_fits b
  unfold fz at h
  rw [h1] at s1 f1 h
  rw [h2] at f2 h
  show FP.Core.sgn (FP.Core.val32 (FP.Core.fadd a b)) = false
  rw [FP.Core.val32_fadd, h1, h2]
  exact sum_sgn f1 f2 (by have e1 : s = false := s1; rw [e1]; rfl) h
theorem sgn_sub {a b : UInt32} (ha : nn a) (hb : FP.Core.FFin b) (h : fz b ≤ fz a) : FP.Core.sgn (FP.Core.val32 (FP.fsub a b)) = false := by
  obtain ⟨⟨s, c, q, h1⟩, s1⟩ := ha
  obtain ⟨t, d, r, h2⟩ := hb
  have f1 := FP.Core.val32_fits a
  have f2 := FP.Core.negate_fits (FP.Core.val32_fits b)
  have hz : FP.Core.zval FP.Core.b32 (.fin (!t) d r) = - FP.Core.zval FP.Core.b32 (.fin t d r) := FP.Core.zval_negate _ (.fin t d r)
  unfold fz at h
  rw [h1] at s1 f1 h
  rw [h2] at f2 h
  show FP.Core.sgn (FP.Core.val32 (FP.Core.fsub a b)) = false
  rw [FP.Core.val32_fsub, h1, h2]
  exact sum_sgn f1 f2 (by have e1 : s = false := s1; rw [e1]; rfl) (by rw [hz]; omega)
theorem nn.zmag {x : UInt32} (h : nn x) : fz x = (FP.Core.zmag FP.Core.b32 (FP.Core.val32 x) : Int) := by
  unfold fz FP.Core.zval
  rw [h.2]
  rfl
theorem qmax32 : FP.Core.b32.qmax = 104 := by decide
/-- a quotient: not NaN, not below 0, and between what the exact one is between -/
theorem fz_div {a b : UInt32} (ha : nn a) (hb : nn b) (hb0 : 0 < fz b) : FP.Core.val32 (FP.fdiv a b) ≠ .nan ∧ FP.Core.sgn (FP.Core.val32 (FP.fdiv a b)) = false ∧ (∀ V, nn V → fz a * fO ≤ fz V * fz b → fz (FP.fdiv a b) ≤ fz V) ∧ ∀ V, nn V → fz V * fz b ≤ fz a * fO → fz V ≤ fz (FP.fdiv a b) := by
  have za := ha.zmag
  have zb := hb.zmag
  obtain ⟨⟨s, c, q, h1⟩, s1⟩ := ha
  obtain ⟨⟨t, d, r, h2⟩, s2⟩ := hb
  have f1 := FP.Core.val32_fits a
  have f2 := FP.Core.val32_fits b
  rw [h1] at s1 f1 za
  rw [h2] at s2 f2 zb
  have e1 : s = false := s1
  have e2 : t = false := s2
  subst e1
  subst e2
  have hd : 0 < d := by
    rcases Nat.eq_zero_or_pos d with z | z
    · subst z
      rw [zb] at hb0
      simp [FP.Core.zmag, FP.Core.inUnits] at hb0
    · exact z
  have q1 : -149 ≤ q := by have := f1.2.1; rw [q32] at this; exact this
  have r1 : -149 ≤ r := by have := f2.2.1; rw [q32] at this; exact this
  have q2 : q ≤ 104 := by have := f1.2.2.1; rw [qmax32] at this; exact this
  have r2 : r ≤ 104 := by have := f2.2.2.1; rw [qmax32] at this; exact this
  have ev : FP.Core.val32 (FP.fdiv a b) = FP.Core.roundRatio FP.Core.b32 false c d (q - r) := by
    show FP.Core.val32 (FP.Core.fdiv a b) = _
    rw [FP.Core.val32_fdiv, h1, h2]
    show (if d = 0 then _ else _) = _
    rw [if_neg (by omega)]
    rfl
  have hs : FP.Core.sgn (FP.Core.val32 (FP.fdiv a b)) = false := by rw [ev, FP.Core.sgn_roundRatio]
  have hz : fz (FP.fdiv a b) = (FP.Core.zmag FP.Core.b32 (FP.Core.roundRatio FP.Core.b32 false c d (q - r)) : Int) := by
    unfold fz FP.Core.zval
    rw [hs, ev]
    rfl
  have ua : FP.Core.zmag FP.Core.b32 (.fin false c q) = c * 2 ^ (q + 149).toNat := by
    show FP.Core.inUnits c q FP.Core.b32.qmin = _
    rw [q32]
    unfold FP.Core.inUnits
    rw [show q - -149 = q + 149 by omega]
  have ub : FP.Core.zmag FP.Core.b32 (.fin false d r) = d * 2 ^ (r + 149).toNat := by
    show FP.Core.inUnits d r FP.Core.b32.qmin = _
    rw [q32]
    unfold FP.Core.inUnits
    rw [show r - -149 = r + 149 by omega]
  refine ⟨by rw [ev]; exact FP.Core.roundRatio_ne_nan _ _ _ _ _, hs, fun V hV h => ?_, fun V hV h => ?_⟩
  · rw [hz, hV.zmag]
    rw [za, zb, hV.zmag, ua, ub] at h
    have hn : c * 2 ^ (q + 149).toNat * 2 ^ 149 ≤ FP.Core.zmag FP.Core.b32 (FP.Core.val32 V) * (d * 2 ^ (r + 149).toNat) := by
      have e : fO = ((2 ^ 149 : Nat) : Int) := rfl
      rw [e, ← Int.natCast_mul, ← Int.natCast_mul] at h
      exact Int.ofNat_le.mp h
    have := FP.Core.zmag_roundRatio_le FP.Core.good_b32 (s := false) (A := c) (B := d) (e := q - r) (e0 := -600) hd (FP.Core.val32_fits V) hV.ne (by rw [q32]; decide) (by omega) (by rw [q32]; exact (div_units q1 r1 (by omega)).1 hn)
    exact Int.ofNat_le.mpr this
  · rw [hz, hV.zmag]
    rw [za, zb, hV.zmag, ua, ub] at h
    have hn : FP.Core.zmag FP.Core.b32 (FP.Core.val32 V) * (d * 2 ^ (r + 149).toNat) ≤ c * 2 ^ (q + 149).toNat * 2 ^ 149 := by
      have e : fO = ((2 ^ 149 : Nat) : Int) := rfl
      rw [e, ← Int.natCast_mul, ← Int.natCast_mul] at h
      exact Int.ofNat_le.mp h
    have := FP.Core.zmag_roundRatio_ge FP.Core.good_b32 (s := false) (A := c) (B := d) (e := q - r) (e0 := -600) hd (FP.Core.val32_fits V) (by rw [q32]; decide) (by omega) (by rw [q32]; exact (div_units q1 r1 (by omega)).2 hn)
    exact Int.ofNat_le.mpr this
/-- whole numbers -/
theorem i2f_nn {a : Nat} (h : a < 2 ^ 31) : nn (FP.i2f (nI a)) := by
  refine ⟨FP.Core.i2f_fin _, ?_⟩
  show FP.Core.sgn (FP.Core.val32 (FP.Core.i2f (nI a))) = false
  rw [FP.Core.val32_i2f]
  show FP.Core.sgn (FP.Core.roundRatio _ _ _ _ _) = false
  rw [FP.Core.sgn_roundRatio, nI_toInt h]
  exact decide_eq_false (by omega)
theorem i2f_fz {a : Nat} (h : a ≤ 2 ^ 24) : fz (FP.i2f (nI a)) = (a : Int) * fO := by
  have h1 := FP.Core.i2f_int (a := nI a) (by rw [nI_toInt (by omega)]; simpa using h)
  have h2 := FP.Core.FInt_zval h1
  rw [nI_toInt (by omega)] at h2
  exact h2
theorem nn_bits {x : UInt32} (h : x.toNat < 2139095040) : nn x := by
  have hf : FP.Core.FFin x := (FP.Core.fin_bits32 x).mpr (by omega)
  refine ⟨hf, ?_⟩
  rw [FP.Core.sgn_bits32 hf.ne_nan]
  exact decide_eq_false (by omega)
theorem fz_one : fz FP.fconst1 = fO := by decide +kernel
theorem fz_zero : fz FP.fconst0 = 0 := by decide +kernel
theorem nn_one : nn FP.fconst1 := nn_bits (by decide)
theorem nn_zero : nn FP.fconst0 := nn_bits (by decide)
theorem cmp_fz {x y : UInt32} (hx : FP.Core.val32 x ≠ .nan) (hy : FP.Core.val32 y ≠ .nan) (op : CmpOp) : (fz x < fz y ∧ Op.cmpValue (FP.fcmp x y) op = -1) ∨ (fz x = fz y ∧ Op.cmpValue (FP.fcmp x y) op = 0) ∨ (fz y < fz x ∧ Op.cmpValue (FP.fcmp x y) op = 1) := by
  have h : FP.fcmp x y = some (compare (fz x) (fz y)) := FP.Core.fcmp_zval hx hy
  rw [h]
  rcases Int.lt_trichotomy (fz x) (fz y) with z | z | z
  · refine Or.inl ⟨z, ?_⟩
    rw [(FP.Core.compare_lt_iff _ _).mpr z]
    rfl
  · refine Or.inr (Or.inl ⟨z, ?_⟩)
    rw [(FP.Core.compare_eq_iff _ _).mpr z]
    rfl
  · refine Or.inr (Or.inr ⟨z, ?_⟩)
    rw [(FP.Core.compare_gt_iff _ _).mpr z]
    rfl
theorem cmp_lt {x y : UInt32} (hx : FP.Core.val32 x ≠ .nan) (hy : FP.Core.val32 y ≠ .nan) (op : CmpOp) : Op.cmpValue (FP.fcmp x y) op < 0 ↔ fz x < fz y := by
  rcases cmp_fz hx hy op with ⟨h, e⟩ | ⟨h, e⟩ | ⟨h, e⟩ <;> rw [e]
  · exact ⟨fun _ => h, fun _ => by decide⟩
  · exact ⟨fun z => absurd z (by decide), fun z => absurd z (by omega)⟩
  · exact ⟨fun z => absurd z (by decide), fun z => absurd z (by omega)⟩
theorem cmp_gt {x y : UInt32} (hx : FP.Core.val32 x ≠ .nan) (hy : FP.Core.val32 y ≠ .nan) (op : CmpOp) : 0 < Op.cmpValue (FP.fcmp x y) op ↔ fz y < fz x := by
  rcases cmp_fz hx hy op with ⟨h, e⟩ | ⟨h, e⟩ | ⟨h, e⟩ <;> rw [e]
  · exact ⟨fun z => absurd z (by decide), fun z => absurd z (by omega)⟩
  · exact ⟨fun z => absurd z (by decide), fun z => absurd z (by omega)⟩
  · exact ⟨fun _ => h, fun _ => by decide⟩
theorem cmp_le {x y : UInt32} (hx : FP.Core.val32 x ≠ .nan) (hy : FP.Core.val32 y ≠ .nan) (op : CmpOp) : Op.cmpValue (FP.fcmp x y) op ≤ 0 ↔ fz x ≤ fz y := by
  rcases cmp_fz hx hy op with ⟨h, e⟩ | ⟨h, e⟩ | ⟨h, e⟩ <;> rw [e]
  · exact ⟨fun _ => by omega, fun _ => by decide⟩
  · exact ⟨fun _ => by omega, fun _ => by decide⟩
  · exact ⟨fun z => absurd z (by decide), fun z => absurd z (by omega)⟩
theorem cmp_ge {x y : UInt32} (hx : FP.Core.val32 x ≠ .nan) (hy : FP.Core.val32 y ≠ .nan) (op : CmpOp) : 0 ≤ Op.cmpValue (FP.fcmp x y) op ↔ fz y ≤ fz x := by
  rcases cmp_fz hx hy op with ⟨h, e⟩ | ⟨h, e⟩ | ⟨h, e⟩ <;> rw [e]
  · exact ⟨fun z => absurd z (by decide), fun z => absurd z (by omega)⟩
  · exact ⟨fun _ => by omega, fun _ => by decide⟩
  · exact ⟨fun _ => by omega, fun _ => by decide⟩
theorem cmp_eq {x y : UInt32} (hx : FP.Core.val32 x ≠ .nan) (hy : FP.Core.val32 y ≠ .nan) (op : CmpOp) : Op.cmpValue (FP.fcmp x y) op = 0 ↔ fz x = fz y := by
  rcases cmp_fz hx hy op with ⟨h, e⟩ | ⟨h, e⟩ | ⟨h, e⟩ <;> rw [e]
  · exact ⟨fun z => absurd z (by decide), fun z => absurd z (by omega)⟩
  · exact ⟨fun _ => h, fun _ => rfl⟩
  · exact ⟨fun z => absurd z (by decide), fun z => absurd z (by omega)⟩
theorem fz_inj {x y : UInt32} (hx : nn x) (hy : nn y) (h : fz x = fz y) : x = y := by
  have e1 : FP.Core.val32 x = FP.Core.val32 y := by
    have zx := hx.zmag
    have zy := hy.zmag
    have z : FP.Core.zmag FP.Core.b32 (FP.Core.val32 x) = FP.Core.zmag FP.Core.b32 (FP.Core.val32 y) := by omega
    rw [FP.Core.zmag_toNat32 hx.ne, FP.Core.zmag_toNat32 hy.ne] at z
    have z2 : x.toNat % 2 ^ 31 = y.toNat % 2 ^ 31 := by
      have a1 := (FP.Core.unitsOf_le_iff (f := FP.Core.b32)).mp (Nat.le_of_eq z)
      have a2 := (FP.Core.unitsOf_le_iff (f := FP.Core.b32)).mp (Nat.le_of_eq z.symm)
      omega
    have s1 := hx.2
    have s2 := hy.2
    rw [FP.Core.sgn_bits32 hx.ne] at s1
    rw [FP.Core.sgn_bits32 hy.ne] at s2
    have b1 : ¬ 2 ^ 31 ≤ x.toNat := by simpa using s1
    have b2 : ¬ 2 ^ 31 ≤ y.toNat := by simpa using s2
    have : x = y := UInt32.toNat_inj.mp (by omega)
    rw [this]
  exact FP.Core.val32_inj hx.ne e1
/-- a master on its way up, as the other one reckons it -/
def risR (up t : Int32) : UInt32 := if up = 0 then FP.fconst1 else if Op.cmpValue (FP.fcmp (FP.fdiv (FP.i2f t) (FP.i2f up)) FP.fconst1) .l ≤ 0 then FP.fdiv (FP.i2f t) (FP.i2f up) else FP.fconst1
theorem f64_is : nn (0x3c800000 : UInt32) ∧ fz (0x3c800000 : UInt32) * 64 = fO := ⟨nn_bits (by decide), by decide +kernel⟩
theorem f4096_is : nn (0x39800000 : UInt32) ∧ fz (0x39800000 : UInt32) * 4096 = fO := ⟨nn_bits (by decide), by decide +kernel⟩
theorem f63_is : nn (0x3f7c0000 : UInt32) ∧ fz (0x3f7c0000 : UInt32) * 64 = 63 * fO := ⟨nn_bits (by decide), by decide +kernel⟩
theorem div_nI {t u : Nat} (ht : t ≤ 2 ^ 24) (hu : u ≤ 2 ^ 24) (hu0 : 0 < u) : nn (FP.i2f (nI t)) ∧ nn (FP.i2f (nI u)) ∧ 0 < fz (FP.i2f (nI u)) ∧ fz (FP.i2f (nI t)) = (t : Int) * fO ∧ fz (FP.i2f (nI u)) = (u : Int) * fO := by
  refine ⟨i2f_nn (by omega), i2f_nn (by omega), ?_, i2f_fz ht, i2f_fz hu⟩
  rw [i2f_fz hu]
  exact Int.mul_pos (by omega) fO_pos
/-- a share below its whole -/
theorem share_lt {t u : Nat} (hu : u ≤ 60) (h : t < u) : nn (FP.fdiv (FP.i2f (nI t)) (FP.i2f (nI u))) ∧ fz (FP.fdiv (FP.i2f (nI t)) (FP.i2f (nI u))) * 64 ≤ 63 * fO ∧ (fz (FP.fdiv (FP.i2f (nI t)) (FP.i2f (nI u))) = 0 ∨ fO ≤ 64 * fz (FP.fdiv (FP.i2f (nI t)) (FP.i2f (nI u)))) := by
  obtain ⟨n1, n2, n3, e1, e2⟩ := div_nI (t := t) (u := u) (by omega) (by omega) (by omega)
  obtain ⟨h1, h2, h3, h4⟩ := fz_div n1 n2 n3
  have hO := fO_pos
  have hle : fz (FP.fdiv (FP.i2f (nI t)) (FP.i2f (nI u))) ≤ fz (0x3f7c0000 : UInt32) := h3 _ f63_is.1 (by
    rw [e1, e2]
    have k : (t : Int) * 64 ≤ 63 * (u : Int) := by omega
    have k2 := f63_is.2
    have a1 : (t : Int) * fO * fO * 64 ≤ fz (0x3f7c0000 : UInt32) * ((u : Int) * fO) * 64 := by
      have b1 : (t : Int) * fO * fO * 64 = (t : Int) * 64 * (fO * fO) := by ac_rfl
      have b2 : fz (0x3f7c0000 : UInt32) * ((u : Int) * fO) * 64 = 63 * (u : Int) * (fO * fO) := by
        rw [show fz (0x3f7c0000 : UInt32) * ((u : Int) * fO) * 64 = (fz (0x3f7c0000 : UInt32) * 64) * ((u : Int) * fO) by ac_rfl, k2]
        ac_rfl
      rw [b1, b2]
      exact Int.mul_le_mul_of_nonneg_right k (Int.le_of_lt (Int.mul_pos hO hO))
    omega)
  have hf : FP.Core.FFin (FP.fdiv (FP.i2f (nI t)) (FP.i2f (nI u))) := fin_mid h1 f63_is.1.1 hle (by
    have : 0 ≤ fz (FP.fdiv (FP.i2f (nI t)) (FP.i2f (nI u))) := by unfold fz FP.Core.zval; rw [h2]; exact Int.natCast_nonneg _
    have := f63_is.1.ge
    omega)
  have hn : nn (FP.fdiv (FP.i2f (nI t)) (FP.i2f (nI u))) := ⟨hf, h2⟩
  refine ⟨hn, by have := f63_is.2; omega, ?_⟩
  rcases Nat.eq_zero_or_pos t with z | z
  · subst z
    left
    have := h3 _ nn_zero (by rw [e1, fz_zero]; simp)
    rw [fz_zero] at this
    have := hn.ge
    omega
  · right
    have := h4 _ f64_is.1 (by
      rw [e1, e2]
      have k : (u : Int) ≤ 64 * (t : Int) := by omega
      have a1 : fz (0x3c800000 : UInt32) * ((u : Int) * fO) * 64 ≤ (t : Int) * fO * fO * 64 := by
        have b1 : (t : Int) * fO * fO * 64 = 64 * (t : Int) * (fO * fO) := by ac_rfl
        have b2 : fz (0x3c800000 : UInt32) * ((u : Int) * fO) * 64 = (u : Int) * (fO * fO) := by
          rw [show fz (0x3c800000 : UInt32) * ((u : Int) * fO) * 64 = (fz (0x3c800000 : UInt32) * 64) * ((u : Int) * fO) by ac_rfl, f64_is.2]
          ac_rfl
        rw [b1, b2]
        exact Int.mul_le_mul_of_nonneg_right k (Int.le_of_lt (Int.mul_pos hO hO))
      omega)
    have := f64_is.2
    omega
theorem up0 {u : Nat} (h : u ≤ 60) : nI u = 0 ↔ u = 0 := ⟨fun z => x_nIinj (a := u) (b := 0) z (by omega) (by omega), fun z => by rw [z]; rfl⟩
/-- a master: a number from 0 to 1, not too small -/
def msI (m : UInt32) : Prop := nn m ∧ fz m ≤ fO ∧ (fz m = 0 ∨ fO ≤ 4096 * fz m)
def ms6 (m : UInt32) : Prop := nn m ∧ fz m ≤ fO ∧ (fz m = 0 ∨ fO ≤ 64 * fz m)
theorem ms6.I {m : UInt32} (h : ms6 m) : msI m := ⟨h.1, h.2.1, h.2.2.elim Or.inl (fun z => Or.inr (by have := h.1.ge; omega))⟩
theorem ms6_one : ms6 FP.fconst1 := ⟨nn_one, by rw [fz_one]; exact Int.le_refl _, Or.inr (by rw [fz_one]; have := fO_pos; omega)⟩
/-- the two reckonings of a rise are one -/
theorem rise_is {u t : Nat} (hu : u ≤ 60) (ht : t ≤ 2 ^ 24) : ms6 (masterR (nI u) (nI t)) ∧ risR (nI u) (nI t) = masterR (nI u) (nI t) := by
  have hO := fO_pos
  unfold masterR risR
  by_cases hz : u = 0
  · rw [if_pos ((up0 hu).mpr hz), if_pos ((up0 hu).mpr hz)]
    exact ⟨ms6_one, rfl⟩
  · rw [if_neg (fun z => hz ((up0 hu).mp z)), if_neg (fun z => hz ((up0 hu).mp z))]
    obtain ⟨n1, n2, n3, e1, e2⟩ := div_nI (t := t) (u := u) ht (by omega) (by omega)
    obtain ⟨h1, h2, h3, h4⟩ := fz_div n1 n2 n3
    rcases Nat.lt_or_ge t u with c | c
    · obtain ⟨s1, s2, s3⟩ := share_lt hu c
      have hlt : fz (FP.fdiv (FP.i2f (nI t)) (FP.i2f (nI u))) < fz FP.fconst1 := by rw [fz_one]; omega
      rw [if_pos ((cmp_lt h1 nn_one.ne .g).mpr hlt), if_pos ((cmp_le h1 nn_one.ne .l).mpr (Int.le_of_lt hlt))]
      exact ⟨⟨s1, by omega, s3⟩, rfl⟩
    · have hge : fz FP.fconst1 ≤ fz (FP.fdiv (FP.i2f (nI t)) (FP.i2f (nI u))) := h4 _ nn_one (by
        rw [e1, e2, fz_one]
        have k : (u : Int) ≤ (t : Int) := by omega
        rw [show (t : Int) * fO * fO = (t : Int) * (fO * fO) by ac_rfl, show fO * ((u : Int) * fO) = (u : Int) * (fO * fO) by ac_rfl]
        exact Int.mul_le_mul_of_nonneg_right k (Int.le_of_lt (Int.mul_pos hO hO)))
      rw [if_neg (fun z => by have := (cmp_lt h1 nn_one.ne .g).mp z; omega)]
      refine ⟨ms6_one, ?_⟩
      split
      · rename_i z
        have hle := (cmp_le h1 nn_one.ne .l).mp z
        have hf : FP.Core.FFin (FP.fdiv (FP.i2f (nI t)) (FP.i2f (nI u))) := fin_mid h1 nn_one.1 hle (by have := nn_one.ge; omega)
        exact fz_inj ⟨hf, h2⟩ nn_one (by omega)
      · rfl
/-- what is left of a fall -/
theorem fall_is {d t : Nat} (hd : d ≤ 60) (h : t < d) : ms6 (fallR (nI d) (nI t)) := by
  obtain ⟨s1, s2, s3⟩ := share_lt hd h
  have hO := fO_pos
  have hg := s1.ge
  unfold fallR
  have hn := ne_sub nn_one.1 s1.1
  have h1 : fz (FP.fsub FP.fconst1 (FP.fdiv (FP.i2f (nI t)) (FP.i2f (nI d)))) ≤ fz FP.fconst1 := fz_sub_le nn_one.1 s1.1 nn_one.ne (by omega)
  have h2 : fz (0x3c800000 : UInt32) ≤ fz (FP.fsub FP.fconst1 (FP.fdiv (FP.i2f (nI t)) (FP.i2f (nI d)))) := fz_sub_ge nn_one.1 s1.1 f64_is.1.ne (by have := f64_is.2; rw [fz_one]; omega)
  have h3 := f64_is.1.ge
  have h4 := f64_is.2
  rw [fz_one] at h1
  refine ⟨⟨fin_mid hn nn_one.1 (by rw [fz_one]; exact h1) (by rw [fz_one]; omega), sgn_sub nn_one s1.1 (by rw [fz_one]; omega)⟩, h1, Or.inr (by omega)⟩
theorem ms6.mul {a b : UInt32} (ha : ms6 a) (hb : ms6 b) : msI (FP.fmul a b) := by
  have hO := fO_pos
  have ga := ha.1.ge
  have gb := hb.1.ge
  have hn := ne_mul ha.1.1 hb.1.1
  have h1 : fz (FP.fmul a b) ≤ fz FP.fconst1 := fz_mul_le ha.1.1 hb.1.1 nn_one.ne (by rw [fz_one]; exact Int.mul_le_mul ha.2.1 hb.2.1 gb (Int.le_of_lt hO))
  have h2 : fz FP.fconst0 ≤ fz (FP.fmul a b) := fz_mul_ge ha.1.1 hb.1.1 nn_zero.ne (by rw [fz_zero, Int.zero_mul]; exact Int.mul_nonneg ga gb)
  rw [fz_one] at h1
  rw [fz_zero] at h2
  refine ⟨⟨fin_mid hn nn_one.1 (by rw [fz_one]; exact h1) (by rw [fz_one]; omega), sgn_mul ha.1 hb.1⟩, h1, ?_⟩
  have hz : (fz a = 0 ∨ fz b = 0) → fz (FP.fmul a b) = 0 := fun z => by
    have : fz (FP.fmul a b) ≤ fz FP.fconst0 := fz_mul_le ha.1.1 hb.1.1 nn_zero.ne (by rw [fz_zero, Int.zero_mul]; rcases z with z | z <;> rw [z] <;> simp)
    rw [fz_zero] at this
    omega
  rcases ha.2.2 with z | z
  · exact Or.inl (hz (Or.inl z))
  · rcases hb.2.2 with z2 | z2
    · exact Or.inl (hz (Or.inr z2))
    · right
      have : fz (0x39800000 : UInt32) ≤ fz (FP.fmul a b) := fz_mul_ge ha.1.1 hb.1.1 f4096_is.1.ne (by
        have k : fO * fO ≤ (64 * fz a) * (64 * fz b) := Int.mul_le_mul z z2 (Int.le_of_lt hO) (by omega)
        have k2 : (64 * fz a) * (64 * fz b) = fz a * fz b * 4096 := by
          rw [show (4096 : Int) = 64 * 64 by decide]
          ac_rfl
        have k3 : fz (0x39800000 : UInt32) * fO * 4096 = fO * fO := by
          rw [show fz (0x39800000 : UInt32) * fO * 4096 = (fz (0x39800000 : UInt32) * 4096) * fO by ac_rfl, f4096_is.2]
        omega)
      have := f4096_is.2
      omega
/-- a going's numbers: ticks that were, its cue's times -/
def goI (ar : Nat → Nat → Int32) (t : Nat) (g : GG) : Prop := (∃ u, u ≤ 60 ∧ ar 12 g.1 = nI u) ∧ (∃ d, d ≤ 60 ∧ ar 13 g.1 = nI d ∧ (g.2.2 ≠ 0 → t - (g.2.2 - 1) < d)) ∧ g.2.1 ≤ t ∧ g.2.2 ≤ t + 1 ∧ (g.2.2 ≠ 0 → g.2.1 ≤ g.2.2 - 1) ∧ t < 2 ^ 24
theorem sub_nI {a b : Nat} (h : b ≤ a) : nI a - nI b = nI (a - b) := by
  obtain ⟨d, rfl⟩ : ∃ d, a = b + d := ⟨a - b, by omega⟩
  rw [show b + d - b = d by omega, ← nI_add, Int32.add_comm]
  simp
theorem relI_ne {r : Nat} (h : r < 2 ^ 31) : relI (r + 1) ≠ -1 := fun z => by
  have z1 := congrArg Int32.toInt z
  show False
  rw [show relI (r + 1) = nI r from rfl, nI_toInt h] at z1
  have : (-1 : Int32).toInt = -1 := by decide
  omega
theorem masP_is {ar : Nat → Nat → Int32} {t : Nat} {g : GG} (h : goI ar t g) : msI (masP ar t g) := by
  obtain ⟨⟨u, hu, e12⟩, ⟨d, hd, e13, hdd⟩, hw, hr, hwr, ht⟩ := h
  obtain ⟨c, w, r⟩ := g
  unfold masP masterG
  dsimp only at *
  rw [e12, e13]
  cases r with
  | zero =>
    rw [if_pos (show relI 0 = -1 from rfl), sub_nI hw]
    exact (rise_is hu (by omega)).1.I
  | succ r =>
    have h1 := hdd (by omega)
    have h2 := hwr (by omega)
    have e1 : r + 1 - 1 = r := by omega
    rw [e1] at h1 h2
    have hd0 : ¬ nI d = 0 := fun z => by have := (up0 hd).mp z; omega
    rw [if_neg (relI_ne (by omega)), if_neg hd0, show relI (r + 1) = nI r from rfl, sub_nI h2, sub_nI (show r ≤ t by omega)]
    exact (rise_is hu (by omega)).1.mul (fall_is hd h1)
/-- a level's number -/
def lvI (K : Nat) (x : UInt32) : Prop := nn x ∧ fz x ≤ (K : Int) * fO ∧ (fz x = 0 ∨ fO ≤ 4096 * fz x)
theorem lvI.up {K M : Nat} {x : UInt32} (h : lvI K x) (hK : K ≤ M) : lvI M x := ⟨h.1, Int.le_trans h.2.1 (Int.mul_le_mul_of_nonneg_right (by omega) (Int.le_of_lt fO_pos)), h.2.2⟩
theorem lvI_zero (K : Nat) : lvI K FP.fconst0 := ⟨nn_zero, by rw [fz_zero]; exact Int.mul_nonneg (by omega) (Int.le_of_lt fO_pos), Or.inl fz_zero⟩
theorem ms_mul {m : UInt32} {v : Nat} (hm : msI m) (h1 : 1 ≤ v) (h2 : v ≤ 100) : FP.Core.val32 (FP.fmul m (FP.i2f (nI v))) ≠ .nan ∧ lvI 100 (FP.fmul m (FP.i2f (nI v))) := by
  have hO := fO_pos
  have nv := i2f_nn (a := v) (by omega)
  have ev := i2f_fz (a := v) (by omega)
  have nK := i2f_nn (a := 100) (by omega)
  have eK := i2f_fz (a := 100) (by omega)
  have gm := hm.1.ge
  have hn := ne_mul hm.1.1 nv.1
  have u1 : fz (FP.fmul m (FP.i2f (nI v))) ≤ fz (FP.i2f (nI 100)) := fz_mul_le hm.1.1 nv.1 nK.ne (by
    rw [ev, eK]
    have k : fz m * ((v : Int) * fO) ≤ fO * ((100 : Int) * fO) := Int.mul_le_mul hm.2.1 (Int.mul_le_mul_of_nonneg_right (by omega) (Int.le_of_lt hO)) (Int.mul_nonneg (by omega) (Int.le_of_lt hO)) (Int.le_of_lt hO)
    rw [show ((100 : Nat) : Int) * fO * fO = fO * ((100 : Int) * fO) by rw [Int.mul_comm]; rfl]
    exact k)
  have u2 : fz FP.fconst0 ≤ fz (FP.fmul m (FP.i2f (nI v))) := fz_mul_ge hm.1.1 nv.1 nn_zero.ne (by rw [fz_zero, Int.zero_mul]; exact Int.mul_nonneg gm nv.ge)
  rw [fz_zero] at u2
  have hf : FP.Core.FFin (FP.fmul m (FP.i2f (nI v))) := fin_mid hn nK.1 u1 (by have := nK.ge; omega)
  refine ⟨hn, ⟨hf, sgn_mul hm.1 nv⟩, by rw [eK] at u1; exact u1, ?_⟩
  rcases hm.2.2 with z | z
  · left
    have : fz (FP.fmul m (FP.i2f (nI v))) ≤ fz FP.fconst0 := fz_mul_le hm.1.1 nv.1 nn_zero.ne (by rw [fz_zero, Int.zero_mul, z]; simp)
    rw [fz_zero] at this
    omega
  · right
    have : fz (0x39800000 : UInt32) ≤ fz (FP.fmul m (FP.i2f (nI v))) := fz_mul_ge hm.1.1 nv.1 f4096_is.1.ne (by
      rw [ev]
      have k : fO * ((1 : Int) * fO) ≤ (4096 * fz m) * ((v : Int) * fO) := Int.mul_le_mul z (Int.mul_le_mul_of_nonneg_right (by omega) (Int.le_of_lt hO)) (by omega) (by omega)
      have k3 : fz (0x39800000 : UInt32) * fO * 4096 = fO * fO := by
        rw [show fz (0x39800000 : UInt32) * fO * 4096 = (fz (0x39800000 : UInt32) * 4096) * fO by ac_rfl, f4096_is.2]
      have k4 : (4096 * fz m) * ((v : Int) * fO) = fz m * ((v : Int) * fO) * 4096 := by ac_rfl
      rw [Int.one_mul] at k
      omega)
    have := f4096_is.2
    omega
/-- a number of the format, told with any digits -/
theorem exact_fits : ∀ (n c : Nat) (q : Int), (q + 149).toNat = n → c < 2 ^ 24 → -149 ≤ q → q ≤ 104 → ∃ (c' : Nat) (q' : Int), FP.Core.fits FP.Core.b32 (.fin false c' q') ∧ c' * 2 ^ (q' + 149).toNat = c * 2 ^ (q + 149).toNat
  | 0, c, q, h, hc, h1, h2 => by
    have e : q = -149 := by omega
    subst e
    exact ⟨c, -149, ⟨hc, by rw [q32]; decide, by rw [qmax32]; decide, Or.inl (by rw [q32])⟩, rfl⟩
  | n + 1, c, q, h, hc, h1, h2 => by
    by_cases k : 2 ^ 23 ≤ c
    · exact ⟨c, q, ⟨hc, by rw [q32]; exact h1, by rw [qmax32]; exact h2, Or.inr k⟩, rfl⟩
    · obtain ⟨c', q', hf, e⟩ := exact_fits n (2 * c) (q - 1) (by omega) (by omega) (by omega) (by omega)
      refine ⟨c', q', hf, e.trans ?_⟩
      rw [show (q + 149).toNat = (q - 1 + 149).toNat + 1 by omega, Nat.pow_succ]
      ac_rfl
theorem exact_is {c : Nat} {q : Int} (hc : c < 2 ^ 24) (h1 : -149 ≤ q) (h2 : q ≤ 104) : ∃ V : UInt32, nn V ∧ fz V = ((c * 2 ^ (q + 149).toNat : Nat) : Int) := by
  obtain ⟨c', q', hf, e⟩ := exact_fits _ c q rfl hc h1 h2
  have hv := FP.Core.val32_of32 hf
  have hn : nn (FP.Core.of32 (.fin false c' q')) := ⟨⟨_, _, _, hv⟩, by rw [hv]; rfl⟩
  refine ⟨_, hn, ?_⟩
  rw [hn.zmag, hv]
  have e2 : FP.Core.zmag FP.Core.b32 (.fin false c' q') = c' * 2 ^ (q' + 149).toNat := by
    show FP.Core.inUnits c' q' FP.Core.b32.qmin = _
    rw [q32]
    unfold FP.Core.inUnits
    rw [show q' - -149 = q' + 149 by omega]
  rw [e2, e]
theorem under_is {l : UInt32} {v : Nat} (hl : nn l) (h1 : 1 ≤ v) (hK : fz l ≤ 4000 * fO) (h : (v : Int) * fO < fz l) : ∃ V : UInt32, nn V ∧ fz V = fz l - (v : Int) * fO := by
  have zl := hl.zmag
  obtain ⟨⟨s, c, q, e⟩, hs⟩ := hl
  have hf := FP.Core.val32_fits l
  rw [e] at hs hf zl
  have es : s = false := hs
  subst es
  obtain ⟨f1, f2, f3, f4⟩ := hf
  rw [q32] at f2 f4
  rw [qmax32] at f3
  have ez : FP.Core.zmag FP.Core.b32 (.fin false c q) = c * 2 ^ (q + 149).toNat := by
    show FP.Core.inUnits c q FP.Core.b32.qmin = _
    rw [q32]
    unfold FP.Core.inUnits
    rw [show q - -149 = q + 149 by omega]
  rw [ez] at zl
  have eO : fO = ((2 ^ 149 : Nat) : Int) := rfl
  have hc : c < 2 ^ 24 := f1
  have q0 : q < 0 := by
    refine Int.lt_of_not_ge (fun z => ?_)
    have hc2 : 2 ^ 23 ≤ c := f4.elim (fun y => by omega) (fun y => y)
    rw [zl, eO, show (4000 : Int) = ((4000 : Nat) : Int) from rfl, ← Int.natCast_mul] at hK
    have hK' := Int.ofNat_le.mp hK
    have k : 2 ^ 23 * 2 ^ 149 ≤ c * 2 ^ (q + 149).toNat := Nat.mul_le_mul hc2 (Nat.pow_le_pow_right (by decide) (by omega))
    have k2 : 4000 * 2 ^ 149 < 2 ^ 23 * 2 ^ 149 := by decide
    omega
  rw [zl, eO, ← Int.natCast_mul] at h
  have h' := Int.ofNat_lt.mp h
  have e149 : 2 ^ 149 = 2 ^ (-q).toNat * 2 ^ (q + 149).toNat := by
    rw [← Nat.pow_add, show (-q).toNat + (q + 149).toNat = 149 by omega]
  have hlt : v * 2 ^ (-q).toNat < c := by
    rw [e149, ← Nat.mul_assoc] at h'
    exact Nat.lt_of_mul_lt_mul_right h'
  obtain ⟨V, hV, eV⟩ := exact_is (c := c - v * 2 ^ (-q).toNat) (q := q) (by omega) (by omega) (by omega)
  refine ⟨V, hV, ?_⟩
  rw [eV, zl, eO, ← Int.natCast_mul, Nat.sub_mul, Nat.mul_assoc, ← e149]
  have : v * 2 ^ 149 ≤ c * 2 ^ (q + 149).toNat := Nat.le_of_lt h'
  omega
theorem fneg_fz {V : UInt32} (h : FP.Core.FFin V) : FP.Core.FFin (FP.Core.fneg V) ∧ fz (FP.Core.fneg V) = -fz V := by
  refine ⟨?_, ?_⟩
  · obtain ⟨s, c, q, e⟩ := h
    exact ⟨!s, c, q, by rw [FP.Core.val32_fneg, e]; rfl⟩
  · unfold fz
    rw [FP.Core.val32_fneg, FP.Core.zval_negate]
