/-! floats as whole numbers of their least ones: bounds of what is reckoned -/
def fz (x : UInt32) : Int := FP.Core.zval FP.Core.b32 (FP.Core.val32 x)
def fO : Int := (FP.Core.one32 : Int)
theorem fO_pos : 0 < fO := by have := FP.Core.one32_pos; unfold fO; omega
theorem q32 : FP.Core.b32.qmin = -149 := by decide
theorem signed_mul2 (s t : Bool) (m n : Nat) : FP.Core.signed (s != t) (m * n) = FP.Core.signed s m * FP.Core.signed t n := by
  cases s <;> cases t <;> simp [FP.Core.signed, Int.natCast_mul, Int.mul_neg, Int.neg_mul]
theorem prod_units {s t : Bool} {c d : Nat} {q r : Int} (hx : FP.Core.fits FP.Core.b32 (.fin s c q)) (hy : FP.Core.fits FP.Core.b32 (.fin t d r)) : 2 * FP.Core.b32.qmin ≤ q + r ∧ FP.Core.signed (s != t) (FP.Core.inUnits (c * d) (q + r) (2 * FP.Core.b32.qmin)) = FP.Core.zval FP.Core.b32 (.fin s c q) * FP.Core.zval FP.Core.b32 (.fin t d r) := by
  have h1 := hx.2.1
  have h2 := hy.2.1
  refine ⟨by omega, ?_⟩
  have e : FP.Core.inUnits (c * d) (q + r) (2 * FP.Core.b32.qmin) = FP.Core.inUnits c q FP.Core.b32.qmin * FP.Core.inUnits d r FP.Core.b32.qmin := by
    unfold FP.Core.inUnits
    rw [show (q + r - 2 * FP.Core.b32.qmin).toNat = (q - FP.Core.b32.qmin).toNat + (r - FP.Core.b32.qmin).toNat by omega, Nat.pow_add]
    ac_rfl
  rw [e, signed_mul2]
  rfl
theorem pow_fO : ((2 ^ (FP.Core.b32.qmin - 2 * FP.Core.b32.qmin).toNat : Nat) : Int) = fO := by
  unfold fO
  rw [← FP.Core.pow_qmin32]
  congr 3
theorem fz_mul_le {a b V : UInt32} (ha : FP.Core.FFin a) (hb : FP.Core.FFin b) (hV : FP.Core.val32 V ≠ .nan) (h : fz a * fz b ≤ fz V * fO) : fz (FP.fmul a b) ≤ fz V := by
  obtain ⟨s, c, q, h1⟩ := ha
  obtain ⟨t, d, r, h2⟩ := hb
  have f1 := FP.Core.val32_fits a
  have f2 := FP.Core.val32_fits b
  unfold fz at h ⊢
  rw [h1] at f1 h
  rw [h2] at f2 h
  obtain ⟨p1, p2⟩ := prod_units f1 f2
  show FP.Core.zval FP.Core.b32 (FP.Core.val32 (FP.Core.fmul a b)) ≤ _
  rw [FP.Core.val32_fmul, h1, h2]
  refine FP.Core.zval_round_le FP.Core.good_b32 (FP.Core.val32_fits V) hV (e0 := 2 * FP.Core.b32.qmin) (by rw [q32]; decide) p1 ?_
  rw [p2, pow_fO]
  exact h
theorem fz_mul_ge {a b V : UInt32} (ha : FP.Core.FFin a) (hb : FP.Core.FFin b) (hV : FP.Core.val32 V ≠ .nan) (h : fz V * fO ≤ fz a * fz b) : fz V ≤ fz (FP.fmul a b) := by
  obtain ⟨s, c, q, h1⟩ := ha
  obtain ⟨t, d, r, h2⟩ := hb
  have f1 := FP.Core.val32_fits a
  have f2 := FP.Core.val32_fits b
  unfold fz at h ⊢
  rw [h1] at f1 h
  rw [h2] at f2 h
  obtain ⟨p1, p2⟩ := prod_units f1 f2
  show _ ≤ FP.Core.zval FP.Core.b32 (FP.Core.val32 (FP.Core.fmul a b))
  rw [FP.Core.val32_fmul, h1, h2]
  refine FP.Core.zval_round_ge FP.Core.good_b32 (FP.Core.val32_fits V) hV (e0 := 2 * FP.Core.b32.qmin) (by rw [q32]; decide) p1 ?_
  rw [p2, pow_fO]
  exact h
theorem fz_add_le {a b V : UInt32} (ha : FP.Core.FFin a) (hb : FP.Core.FFin b) (hV : FP.Core.val32 V ≠ .nan) (h : fz a + fz b ≤ fz V) : fz (FP.fadd a b) ≤ fz V := by
  show FP.Core.zval FP.Core.b32 (FP.Core.val32 (FP.Core.fadd a b)) ≤ _
  rw [FP.Core.val32_fadd]
  exact FP.Core.sum_le FP.Core.good_b32 ha hb (FP.Core.val32_fits a) (FP.Core.val32_fits b) (FP.Core.val32_fits V) hV h
theorem fz_add_ge {a b V : UInt32} (ha : FP.Core.FFin a) (hb : FP.Core.FFin b) (hV : FP.Core.val32 V ≠ .nan) (h : fz V ≤ fz a + fz b) : fz V ≤ fz (FP.fadd a b) := by
  show _ ≤ FP.Core.zval FP.Core.b32 (FP.Core.val32 (FP.Core.fadd a b))
  rw [FP.Core.val32_fadd]
  exact FP.Core.sum_ge FP.Core.good_b32 ha hb (FP.Core.val32_fits a) (FP.Core.val32_fits b) (FP.Core.val32_fits V) hV h
theorem neg_fin {b : UInt32} (hb : FP.Core.FFin b) : ∃ s c q, FP.Core.negate (FP.Core.val32 b) = .fin s c q := by
  obtain ⟨s, c, q, h⟩ := hb
  exact ⟨!s, c, q, by rw [h]; rfl⟩
theorem fz_sub_le {a b V : UInt32} (ha : FP.Core.FFin a) (hb : FP.Core.FFin b) (hV : FP.Core.val32 V ≠ .nan) (h : fz a - fz b ≤ fz V) : fz (FP.fsub a b) ≤ fz V := by
  show FP.Core.zval FP.Core.b32 (FP.Core.val32 (FP.Core.fsub a b)) ≤ _
  rw [FP.Core.val32_fsub]
  exact FP.Core.sum_le FP.Core.good_b32 ha (neg_fin hb) (FP.Core.val32_fits a) (FP.Core.negate_fits (FP.Core.val32_fits b)) (FP.Core.val32_fits V) hV (by rw [FP.Core.zval_negate]; unfold fz at h; omega)
theorem fz_sub_ge {a b V : UInt32} (ha : FP.Core.FFin a) (hb : FP.Core.FFin b) (hV : FP.Core.val32 V ≠ .nan) (h : fz V ≤ fz a - fz b) : fz V ≤ fz (FP.fsub a b) := by
  show _ ≤ FP.Core.zval FP.Core.b32 (FP.Core.val32 (FP.Core.fsub a b))
  rw [FP.Core.val32_fsub]
  exact FP.Core.sum_ge FP.Core.good_b32 ha (neg_fin hb) (FP.Core.val32_fits a) (FP.Core.negate_fits (FP.Core.val32_fits b)) (FP.Core.val32_fits V) hV (by rw [FP.Core.zval_negate]; unfold fz at h; omega)
/-- a quotient of two that are above 0 or (the first) 0 -/
theorem div_units {c d V : Nat} {q r : Int} (hq : -149 ≤ q) (hr : -149 ≤ r) (hr2 : r ≤ 200) : (c * 2 ^ (q + 149).toNat * 2 ^ 149 ≤ V * (d * 2 ^ (r + 149).toNat) → FP.Core.inUnits c (q - r) (-600) ≤ V * 2 ^ (-149 - (-600 : Int)).toNat * d) ∧ (V * (d * 2 ^ (r + 149).toNat) ≤ c * 2 ^ (q + 149).toNat * 2 ^ 149 → V * 2 ^ (-149 - (-600 : Int)).toNat * d ≤ FP.Core.inUnits c (q - r) (-600)) := by
  unfold FP.Core.inUnits
  have e1 : c * 2 ^ (q - r - (-600)).toNat = c * 2 ^ (q + 149).toNat * 2 ^ 149 * 2 ^ (302 - r).toNat := by
    rw [show (q - r - (-600)).toNat = (q + 149).toNat + 149 + (302 - r).toNat by omega, Nat.pow_add, Nat.pow_add]
    ac_rfl
  have e2 : V * 2 ^ (-149 - (-600 : Int)).toNat * d = V * (d * 2 ^ (r + 149).toNat) * 2 ^ (302 - r).toNat := by
    rw [show (-149 - (-600 : Int)).toNat = (r + 149).toNat + (302 - r).toNat by omega, Nat.pow_add]
    ac_rfl
  rw [e1, e2]
  exact ⟨fun h => Nat.mul_le_mul_right _ h, fun h => Nat.mul_le_mul_right _ h⟩
/-- finite, and not below 0 -/
def nn (x : UInt32) : Prop := FP.Core.FFin x ∧ FP.Core.sgn (FP.Core.val32 x) = false
theorem nn.ge {x : UInt32} (h : nn x) : 0 ≤ fz x := by
  unfold fz FP.Core.zval
  rw [h.2]
  exact Int.natCast_nonneg _
theorem nn.ne {x : UInt32} (h : nn x) : FP.Core.val32 x ≠ .nan := h.1.ne_nan
theorem fin_mid {x V : UInt32} (hx : FP.Core.val32 x ≠ .nan) (hV : FP.Core.FFin V) (h1 : fz x ≤ fz V) (h2 : -fz V ≤ fz x) : FP.Core.FFin x := by
  have ht := hV.zval_lt
  have hVz : fz V ≤ (FP.Core.zmag FP.Core.b32 (FP.Core.val32 V) : Int) := by
    unfold fz FP.Core.zval
    cases FP.Core.sgn (FP.Core.val32 V) <;> simp [FP.Core.signed] <;> omega
  unfold fz FP.Core.zval at h1 h2
  cases hc : FP.Core.val32 x with
  | nan => exact absurd hc hx
  | inf s =>
    exfalso
    rw [hc] at h1 h2
    have e : FP.Core.zmag FP.Core.b32 (.inf s) = FP.Core.b32.tails * 2 ^ (FP.Core.b32.exps - 2) := rfl
    rw [e] at h1 h2
    unfold fz FP.Core.zval at hVz
    generalize FP.Core.b32.tails * 2 ^ (FP.Core.b32.exps - 2) = top at *
    generalize FP.Core.signed (FP.Core.sgn (FP.Core.val32 V)) (FP.Core.zmag FP.Core.b32 (FP.Core.val32 V)) = v at *
    cases s <;> simp [FP.Core.sgn, FP.Core.signed] at h1 h2 <;> omega
  | fin s c q => exact ⟨s, c, q, hc⟩
theorem out_ne {r : UInt32} (h : FP.Core.fIsNaN r = false) : FP.Core.val32 r ≠ .nan := (FP.Core.notNaN_iff32 r).mp h
theorem ne_mul {a b : UInt32} (ha : FP.Core.FFin a) (hb : FP.Core.FFin b) : FP.Core.val32 (FP.fmul a b) ≠ .nan := out_ne (FP.Core.fmul_out ha hb)
theorem ne_add {a b : UInt32} (ha : FP.Core.FFin a) (hb : FP.Core.FFin b) : FP.Core.val32 (FP.fadd a b) ≠ .nan := out_ne (FP.Core.fadd_out ha.notNaN hb)
theorem ne_sub {a b : UInt32} (ha : FP.Core.FFin a) (hb : FP.Core.FFin b) : FP.Core.val32 (FP.fsub a b) ≠ .nan := out_ne (FP.Core.fsub_out ha.notNaN hb)
theorem vf_of {r : UInt32} (h : FP.Core.val32 r ≠ .nan) : vf_n32 r := fp_nn ((FP.Core.notNaN_iff32 r).mpr h)
theorem sgn_mul {a b : UInt32} (ha : nn a) (hb : nn b) : FP.Core.sgn (FP.Core.val32 (FP.fmul a b)) = false := by
  obtain ⟨⟨s, c, q, h1⟩, s1⟩ := ha
  obtain ⟨⟨t, d, r, h2⟩, s2⟩ := hb
  rw [h1] at s1
  rw [h2] at s2
  show FP.Core.sgn (FP.Core.val32 (FP.Core.fmul a b)) = false
  rw [FP.Core.val32_fmul, h1, h2]
  show FP.Core.sgn (FP.Core.roundRatio FP.Core.b32 (s != t) (c * d) 1 (q + r)) = false
  rw [FP.Core.sgn_roundRatio]
  have e1 : s = false := s1
  have e2 : t = false := s2
  rw [e1, e2]
  rfl
theorem sum_sgn {s t : Bool} {c d : Nat} {q r : Int} (hx : FP.Core.fits FP.Core.b32 (.fin s c q)) (hy : FP.Core.fits FP.Core.b32 (.fin t d r)) (hs : (s && t) = false) (h : 0 ≤ FP.Core.zval FP.Core.b32 (.fin s c q) + FP.Core.zval FP.Core.b32 (.fin t d r)) : FP.Core.sgn (FP.Core.round FP.Core.b32 (FP.Core.exactSum (.fin s c q) (.fin t d r))) = false := by
  have hq := hx.2.1
  have hr := hy.2.1
  show FP.Core.sgn (FP.Core.roundRatio _ _ _ _ _) = false
  rw [FP.Core.sgn_roundRatio]
  unfold FP.Core.sumSign
  split
  · exact hs
  · refine decide_eq_false (fun z => ?_)
    have e1 : FP.Core.zval FP.Core.b32 (.fin s c q) = FP.Core.signed s (FP.Core.inUnits c q (min q r)) * ((2 ^ (min q r - FP.Core.b32.qmin).toNat : Nat) : Int) := by
      show FP.Core.signed s (FP.Core.inUnits c q FP.Core.b32.qmin) = _
      rw [FP.Core.inUnits_move c (q := q) (e := FP.Core.b32.qmin) (r := min q r) (by omega) (by omega), FP.Core.signed_mul]
    have e2 : FP.Core.zval FP.Core.b32 (.fin t d r) = FP.Core.signed t (FP.Core.inUnits d r (min q r)) * ((2 ^ (min q r - FP.Core.b32.qmin).toNat : Nat) : Int) := by
      show FP.Core.signed t (FP.Core.inUnits d r FP.Core.b32.qmin) = _
      rw [FP.Core.inUnits_move d (q := r) (e := FP.Core.b32.qmin) (r := min q r) (by omega) (by omega), FP.Core.signed_mul]
    rw [e1, e2, ← Int.add_mul] at h
    have hp : (0 : Int) < ((2 ^ (min q r - FP.Core.b32.qmin).toNat : Nat) : Int) := by have := Nat.two_pow_pos (min q r - FP.Core.b32.qmin).toNat; omega
    have : FP.Core.sumUnits s c q t d r (min q r) * ((2 ^ (min q r - FP.Core.b32.qmin).toNat : Nat) : Int) < 0 := Int.mul_neg_of_neg_of_pos z hp
    unfold FP.Core.sumUnits at this
    omega
theorem sgn_add {a b : UInt32} (ha : nn a) (hb : FP.Core.FFin b) (h : 0 ≤ fz a + fz b) : FP.Core.sgn (FP.Core.val32 (FP.fadd a b)) = false := by
  obtain ⟨⟨s, c, q, h1⟩, s1⟩ := ha
  obtain ⟨t, d, r, h2⟩ := hb
  have f1 := FP.Core.val32_fits a
  have f2 := FP.Core.val32_fits b
  unfold fz at h
  rw [h1] at s1 f1 h
  rw [h2] at f2 h
  show FP.Core.sgn (FP.Core.val32 (FP.Core.fadd a b)) = false
  rw [FP.Core.val32_fadd, h1, h2]
  exact sum_sgn f1 f2 (by have e1 : s = false := s1; rw [e1]; rfl) h
theorem sgn_sub {a b : UInt32} (ha : nn a) (hb : FP.Core.FFin b) (h : fz b ≤ fz a) : FP.Core.sgn (FP.Core.val32 (FP.fsub a b)) = false := by
  obtain ⟨⟨s, c, q, h1⟩, s1⟩ := ha
  obtain ⟨t, d, r, h2⟩ := hb
  have f1 := FP.Core.val32_fits a
  have f2 := FP.Core.negate_fits (FP.Core.val32_fits b)
  have hz : FP.Core.zval FP.Core.b32 (.fin (!t) d r) = - FP.Core.zval FP.Core.b32 (.fin t d r) := FP.Core.zval_negate _ (.fin t d r)
  unfold fz at h
  rw [h1] at s1 f1 h
  rw [h2] at f2 h
  show FP.Core.sgn (FP.Core.val32 (FP.Core.fsub a b)) = false
  rw [FP.Core.val32_fsub, h1, h2]
  exact sum_sgn f1 f2 (by have e1 : s = false := s1; rw [e1]; rfl) (by rw [hz]; omega)
theorem nn.zmag {x : UInt32} (h : nn x) : fz x = (FP.Core.zmag FP.Core.b32 (FP.Core.val32 x) : Int) := by
  unfold fz FP.Core.zval
  rw [h.2]
  rfl
theorem qmax32 : FP.Core.b32.qmax = 104 := by decide
/-- a quotient: not NaN, not below 0, and between what the exact one is between -/
theorem fz_div {a b : UInt32} (ha : nn a) (hb : nn b) (hb0 : 0 < fz b) : FP.Core.val32 (FP.fdiv a b) ≠ .nan ∧ FP.Core.sgn (FP.Core.val32 (FP.fdiv a b)) = false ∧ (∀ V, nn V → fz a * fO ≤ fz V * fz b → fz (FP.fdiv a b) ≤ fz V) ∧ ∀ V, nn V → fz V * fz b ≤ fz a * fO → fz V ≤ fz (FP.fdiv a b) := by
  have za := ha.zmag
  have zb := hb.zmag
  obtain ⟨⟨s, c, q, h1⟩, s1⟩ := ha
  obtain ⟨⟨t, d, r, h2⟩, s2⟩ := hb
  have f1 := FP.Core.val32_fits a
  have f2 := FP.Core.val32_fits b
  rw [h1] at s1 f1 za
  rw [h2] at s2 f2 zb
  have e1 : s = false := s1
  have e2 : t = false := s2
  subst e1
  subst e2
  have hd : 0 < d := by
    rcases Nat.eq_zero_or_pos d with z | z
    · subst z
      rw [zb] at hb0
      simp [FP.Core.zmag, FP.Core.inUnits] at hb0
    · exact z
  have q1 : -149 ≤ q := by have := f1.2.1; rw [q32] at this; exact this
  have r1 : -149 ≤ r := by have := f2.2.1; rw [q32] at this; exact this
  have q2 : q ≤ 104 := by have := f1.2.2.1; rw [qmax32] at this; exact this
  have r2 : r ≤ 104 := by have := f2.2.2.1; rw [qmax32] at this; exact this
  have ev : FP.Core.val32 (FP.fdiv a b) = FP.Core.roundRatio FP.Core.b32 false c d (q - r) := by
    show FP.Core.val32 (FP.Core.fdiv a b) = _
    rw [FP.Core.val32_fdiv, h1, h2]
    show (if d = 0 then _ else _) = _
    rw [if_neg (by omega)]
    rfl
  have hs : FP.Core.sgn (FP.Core.val32 (FP.fdiv a b)) = false := by rw [ev, FP.Core.sgn_roundRatio]
  have hz : fz (FP.fdiv a b) = (FP.Core.zmag FP.Core.b32 (FP.Core.roundRatio FP.Core.b32 false c d (q - r)) : Int) := by
    unfold fz FP.Core.zval
    rw [hs, ev]
    rfl
  have ua : FP.Core.zmag FP.Core.b32 (.fin false c q) = c * 2 ^ (q + 149).toNat := by
    show FP.Core.inUnits c q FP.Core.b32.qmin = _
    rw [q32]
    unfold FP.Core.inUnits
    rw [show q - -149 = q + 149 by omega]
  have ub : FP.Core.zmag FP.Core.b32 (.fin false d r) = d * 2 ^ (r + 149).toNat := by
    show FP.Core.inUnits d r FP.Core.b32.qmin = _
    rw [q32]
    unfold FP.Core.inUnits
    rw [show r - -149 = r + 149 by omega]
  refine ⟨by rw [ev]; exact FP.Core.roundRatio_ne_nan _ _ _ _ _, hs, fun V hV h => ?_, fun V hV h => ?_⟩
  · rw [hz, hV.zmag]
    rw [za, zb, hV.zmag, ua, ub] at h
    have hn : c * 2 ^ (q + 149).toNat * 2 ^ 149 ≤ FP.Core.zmag FP.Core.b32 (FP.Core.val32 V) * (d * 2 ^ (r + 149).toNat) := by
      have e : fO = ((2 ^ 149 : Nat) : Int) := rfl
      rw [e, ← Int.natCast_mul, ← Int.natCast_mul] at h
      exact Int.ofNat_le.mp h
    have := FP.Core.zmag_roundRatio_le FP.Core.good_b32 (s := false) (A := c) (B := d) (e := q - r) (e0 := -600) hd (FP.Core.val32_fits V) hV.ne (by rw [q32]; decide) (by omega) (by rw [q32]; exact (div_units q1 r1 (by omega)).1 hn)
    exact Int.ofNat_le.mpr this
  · rw [hz, hV.zmag]
    rw [za, zb, hV.zmag, ua, ub] at h
    have hn : FP.Core.zmag FP.Core.b32 (FP.Core.val32 V) * (d * 2 ^ (r + 149).toNat) ≤ c * 2 ^ (q + 149).toNat * 2 ^ 149 := by
      have e : fO = ((2 ^ 149 : Nat) : Int) := rfl
      rw [e, ← Int.natCast_mul, ← Int.natCast_mul] at h
      exact Int.ofNat_le.mp h
    have := FP.Core.zmag_roundRatio_ge FP.Core.good_b32 (s := false) (A := c) (B := d) (e := q - r) (e0 := -600) hd (FP.Core.val32_fits V) (by rw [q32]; decide) (by omega) (by rw [q32]; exact (div_units q1 r1 (by omega)).2 hn)
    exact Int.ofNat_le.mpr this
/-- whole numbers -/
theorem i2f_nn {a : Nat} (h : a < 2 ^ 31) : nn (FP.i2f (nI a)) := by
  refine ⟨FP.Core.i2f_fin _, ?_⟩
  show FP.Core.sgn (FP.Core.val32 (FP.Core.i2f (nI a))) = false
  rw [FP.Core.val32_i2f]
  show FP.Core.sgn (FP.Core.roundRatio _ _ _ _ _) = false
  rw [FP.Core.sgn_roundRatio, nI_toInt h]
  exact decide_eq_false (by omega)
theorem i2f_fz {a : Nat} (h : a ≤ 2 ^ 24) : fz (FP.i2f (nI a)) = (a : Int) * fO := by
  have h1 := FP.Core.i2f_int (a := nI a) (by rw [nI_toInt (by omega)]; simpa using h)
  have h2 := FP.Core.FInt_zval h1
  rw [nI_toInt (by omega)] at h2
  exact h2
theorem nn_bits {x : UInt32} (h : x.toNat < 2139095040) : nn x := by
  have hf : FP.Core.FFin x := (FP.Core.fin_bits32 x).mpr (by omega)
  refine ⟨hf, ?_⟩
  rw [FP.Core.sgn_bits32 hf.ne_nan]
  exact decide_eq_false (by omega)
theorem fz_one : fz FP.fconst1 = fO := by decide +kernel
theorem fz_zero : fz FP.fconst0 = 0 := by decide +kernel
theorem nn_one : nn FP.fconst1 := nn_bits (by decide)
theorem nn_zero : nn FP.fconst0 := nn_bits (by decide)
