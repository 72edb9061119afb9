/-! the load of a phase -/
def c100 : UInt32 := 1120403456
theorem c100_is : nn c100 ∧ fz c100 = 100 * fO := ⟨nn_bits (by decide), by decide +kernel⟩
theorem fh_is : nn (0x3cc80000 : UInt32) ∧ fz (0x3cc80000 : UInt32) * 4096 = 100 * fO := ⟨nn_bits (by decide), by decide +kernel⟩
/-- a step of a load: watts by level by 100, and on -/
theorem load_is {K w : Nat} {l x : UInt32} (hl : lvI K l) (hx : lvI 1300 x) (h1 : 100 ≤ w) (h2 : w ≤ 2000) (hK : K ≤ 4000000) : FP.Core.val32 (FP.fmul (FP.i2f (nI w)) x) ≠ .nan ∧ FP.Core.val32 (FP.fdiv (FP.fmul (FP.i2f (nI w)) x) c100) ≠ .nan ∧ FP.Core.val32 (FP.fadd l (FP.fdiv (FP.fmul (FP.i2f (nI w)) x) c100)) ≠ .nan ∧ lvI (K + 26000) (FP.fadd l (FP.fdiv (FP.fmul (FP.i2f (nI w)) x) c100)) := by
  have hO := fO_pos
  have nw := i2f_nn (a := w) (by omega)
  have ew := i2f_fz (a := w) (by omega)
  have gx := hx.1.ge
  have gl := hl.1.ge
  have hn1 := ne_mul nw.1 hx.1.1
  have nM := i2f_nn (a := 2600000) (by omega)
  have eM := i2f_fz (a := 2600000) (by omega)
  have hx2 := hx.2.1
  have m1 : fz (FP.fmul (FP.i2f (nI w)) x) ≤ fz (FP.i2f (nI 2600000)) := fz_mul_le nw.1 hx.1.1 nM.ne (by
    rw [ew, eM]
    have k : (w : Int) * fO * fz x ≤ (2000 : Int) * fO * ((1300 : Int) * fO) := Int.mul_le_mul (Int.mul_le_mul_of_nonneg_right (by omega) (Int.le_of_lt hO)) hx2 gx (by omega)
    rw [show (2000 : Int) * fO * ((1300 : Int) * fO) = (2000 * 1300 : Int) * fO * fO by ac_rfl] at k
    exact k)
  have m2 : fz FP.fconst0 ≤ fz (FP.fmul (FP.i2f (nI w)) x) := fz_mul_ge nw.1 hx.1.1 nn_zero.ne (by rw [fz_zero, Int.zero_mul]; exact Int.mul_nonneg nw.ge gx)
  rw [fz_zero] at m2
  have sm := sgn_mul nw hx.1
  have mz : fz x = 0 → fz (FP.fmul (FP.i2f (nI w)) x) = 0 := fun z => by
    have : fz (FP.fmul (FP.i2f (nI w)) x) ≤ fz FP.fconst0 := fz_mul_le nw.1 hx.1.1 nn_zero.ne (by rw [fz_zero, Int.zero_mul, z]; simp)
    rw [fz_zero] at this
    omega
  have mn : fO ≤ 4096 * fz x → 100 * fO ≤ 4096 * fz (FP.fmul (FP.i2f (nI w)) x) := fun z => by
    have : fz (0x3cc80000 : UInt32) ≤ fz (FP.fmul (FP.i2f (nI w)) x) := fz_mul_ge nw.1 hx.1.1 fh_is.1.ne (by
      rw [ew]
      have k : (100 : Int) * fO * fO ≤ (w : Int) * fO * (4096 * fz x) := Int.mul_le_mul (Int.mul_le_mul_of_nonneg_right (by omega) (Int.le_of_lt hO)) z (Int.le_of_lt hO) (Int.mul_nonneg (by omega) (Int.le_of_lt hO))
      have k3 : fz (0x3cc80000 : UInt32) * fO * 4096 = 100 * fO * fO := by
        rw [show fz (0x3cc80000 : UInt32) * fO * 4096 = (fz (0x3cc80000 : UInt32) * 4096) * fO by ac_rfl, fh_is.2]
      have k4 : (w : Int) * fO * (4096 * fz x) = (w : Int) * fO * fz x * 4096 := by ac_rfl
      omega)
    have := fh_is.2
    omega
  generalize hf : FP.fmul (FP.i2f (nI w)) x = f at hn1 m1 m2 sm mz mn ⊢
  have nf : nn f := ⟨fin_mid hn1 nM.1 m1 (by have := nM.ge; omega), sm⟩
  rw [eM] at m1
  obtain ⟨d1, d2, d3, d4⟩ := fz_div nf c100_is.1 (by rw [c100_is.2]; omega)
  have nD := i2f_nn (a := 26000) (by omega)
  have eD := i2f_fz (a := 26000) (by omega)
  have q1 : fz (FP.fdiv f c100) ≤ fz (FP.i2f (nI 26000)) := d3 _ nD (by
    rw [eD, c100_is.2]
    have k : fz f * fO ≤ (2600000 : Int) * fO * fO := Int.mul_le_mul_of_nonneg_right m1 (Int.le_of_lt hO)
    rw [show (2600000 : Int) * fO * fO = ((26000 : Nat) : Int) * fO * (100 * fO) by
      rw [show ((26000 : Nat) : Int) * fO * (100 * fO) = (26000 * 100 : Int) * fO * fO by
        rw [show ((26000 : Nat) : Int) = (26000 : Int) from rfl]
        ac_rfl]
      rfl] at k
    exact k)
  have gq : 0 ≤ fz (FP.fdiv f c100) := by unfold fz FP.Core.zval; rw [d2]; exact Int.natCast_nonneg _
  have dz : fz f = 0 → fz (FP.fdiv f c100) = 0 := fun z => by
    have := d3 _ nn_zero (by rw [z, fz_zero]; simp)
    rw [fz_zero] at this
    omega
  have dn : 100 * fO ≤ 4096 * fz f → fO ≤ 4096 * fz (FP.fdiv f c100) := fun z => by
    have := d4 _ f4096_is.1 (by
      rw [c100_is.2]
      have k : (100 * fO) * fO ≤ 4096 * fz f * fO := Int.mul_le_mul_of_nonneg_right z (Int.le_of_lt hO)
      have k3 : fz (0x39800000 : UInt32) * (100 * fO) * 4096 = (100 * fO) * fO := by
        rw [show fz (0x39800000 : UInt32) * (100 * fO) * 4096 = (fz (0x39800000 : UInt32) * 4096) * (100 * fO) by ac_rfl, f4096_is.2]
        ac_rfl
      have k4 : 4096 * fz f * fO = fz f * fO * 4096 := by ac_rfl
      omega)
    have := f4096_is.2
    omega
  generalize hq : FP.fdiv f c100 = q at d1 d2 q1 gq dz dn ⊢
  have nq : nn q := ⟨fin_mid d1 nD.1 q1 (by omega), d2⟩
  have hn3 := ne_add hl.1.1 nq.1
  have nK := i2f_nn (a := K + 26000) (by omega)
  have eK := i2f_fz (a := K + 26000) (by omega)
  have eK2 : fz (FP.i2f (nI (K + 26000))) = (K : Int) * fO + 26000 * fO := by
    rw [eK, Int.natCast_add, Int.add_mul]
    rfl
  have hl2 := hl.2.1
  rw [eD] at q1
  have q1' : fz q ≤ 26000 * fO := q1
  have r1 : fz (FP.fadd l q) ≤ fz (FP.i2f (nI (K + 26000))) := fz_add_le hl.1.1 nq.1 nK.ne (by omega)
  have r2 : fz l ≤ fz (FP.fadd l q) := fz_add_ge hl.1.1 nq.1 hl.1.ne (by omega)
  have r3 : fz q ≤ fz (FP.fadd l q) := fz_add_ge hl.1.1 nq.1 nq.ne (by omega)
  refine ⟨hn1, d1, hn3, ⟨fin_mid hn3 nK.1 r1 (by have := nK.ge; omega), sgn_add hl.1 nq.1 (by omega)⟩, by rw [eK] at r1; exact r1, ?_⟩
  rcases hl.2.2 with z | z
  · rcases hx.2.2 with z2 | z2
    · have e0 := dz (mz z2)
      left
      have : fz (FP.fadd l q) ≤ fz FP.fconst0 := fz_add_le hl.1.1 nq.1 nn_zero.ne (by rw [fz_zero]; omega)
      rw [fz_zero] at this
      omega
    · have := dn (mn z2)
      right
      omega
  · right
    omega
/-! the bits of a number -/
def fB (n : Nat) : UInt32 := UInt32.ofNat n
theorem fB_nat {n : Nat} (h : n < 2 ^ 32) : (fB n).toNat = n := by
  show (UInt32.ofNat n).toNat = n
  exact UInt32.toNat_ofNat_of_lt' h
theorem fB_nn {n : Nat} (h : n < 2139095040) : nn (fB n) := nn_bits (by rw [fB_nat (by omega)]; exact h)
theorem fB_of (x : UInt32) : fB x.toNat = x := by
  show UInt32.ofNat x.toNat = x
  simp
theorem fB_fz {n : Nat} (h : n < 2139095040) : fz (fB n) = (FP.Core.unitsOf FP.Core.b32 n : Int) := by
  rw [(fB_nn h).zmag, FP.Core.zmag_toNat32 (fB_nn h).ne, fB_nat (by omega), Nat.mod_eq_of_lt (by omega)]
theorem units_norm {n : Nat} (h : 2 ^ 23 ≤ n) : FP.Core.unitsOf FP.Core.b32 n = (2 ^ 23 + n % 2 ^ 23) * 2 ^ (n / 2 ^ 23 - 1) := by
  unfold FP.Core.unitsOf
  rw [FP.Core.tails_b32, if_neg (by omega)]
theorem units_twice {n : Nat} (h : 2 ^ 23 ≤ n) : FP.Core.unitsOf FP.Core.b32 (n + 2 ^ 23) = 2 * FP.Core.unitsOf FP.Core.b32 n := by
  rw [units_norm h, units_norm (by omega), show (n + 2 ^ 23) % 2 ^ 23 = n % 2 ^ 23 by omega, show (n + 2 ^ 23) / 2 ^ 23 - 1 = (n / 2 ^ 23 - 1) + 1 by omega]
  generalize 2 ^ 23 + n % 2 ^ 23 = a
  generalize n / 2 ^ 23 - 1 = b
  rw [Nat.pow_succ, ← Nat.mul_assoc, Nat.mul_comm]
theorem fz_two : fz FP.fconst2 = 2 * fO := by decide +kernel
theorem nn_two : nn FP.fconst2 := nn_bits (by decide)
theorem halve {n : Nat} (h : 2 ^ 23 ≤ n) (h2 : n + 2 ^ 23 < 2139095040) : FP.fdiv (fB (n + 2 ^ 23)) FP.fconst2 = fB n := by
  have hO := fO_pos
  have e : fz (fB (n + 2 ^ 23)) = 2 * fz (fB n) := by rw [fB_fz h2, fB_fz (by omega), units_twice h]; rfl
  have na := fB_nn h2
  have nb := fB_nn (n := n) (by omega)
  obtain ⟨d1, d2, d3, d4⟩ := fz_div na nn_two (by rw [fz_two]; omega)
  have k : fz (fB (n + 2 ^ 23)) * fO = fz (fB n) * fz FP.fconst2 := by
    rw [e, fz_two]
    ac_rfl
  have u1 := d3 _ nb (Int.le_of_eq k)
  have u2 := d4 _ nb (Int.le_of_eq k.symm)
  have gq := nb.ge
  exact fz_inj ⟨fin_mid d1 nb.1 u1 (by omega), d2⟩ nb (by omega)
theorem double {n : Nat} (h : 2 ^ 23 ≤ n) (h2 : n + 2 ^ 23 < 2139095040) : FP.fmul (fB n) FP.fconst2 = fB (n + 2 ^ 23) := by
  have hO := fO_pos
  have e : fz (fB (n + 2 ^ 23)) = 2 * fz (fB n) := by rw [fB_fz h2, fB_fz (by omega), units_twice h]; rfl
  have na := fB_nn h2
  have nb := fB_nn (n := n) (by omega)
  have k : fz (fB (n + 2 ^ 23)) * fO = fz (fB n) * fz FP.fconst2 := by
    rw [e, fz_two]
    ac_rfl
  have u1 : fz (FP.fmul (fB n) FP.fconst2) ≤ fz (fB (n + 2 ^ 23)) := fz_mul_le nb.1 nn_two.1 na.ne (Int.le_of_eq k.symm)
  have u2 : fz (fB (n + 2 ^ 23)) ≤ fz (FP.fmul (fB n) FP.fconst2) := fz_mul_ge nb.1 nn_two.1 na.ne (Int.le_of_eq k)
  have gq := na.ge
  exact fz_inj ⟨fin_mid (ne_mul nb.1 nn_two.1) na.1 u1 (by omega), sgn_mul nb nn_two⟩ na (by omega)
def c8388608 : UInt32 := 1258291200
theorem c8_is : nn c8388608 ∧ fz c8388608 = 8388608 * fO := ⟨nn_bits (by decide), by decide +kernel⟩
/-- the digits behind the first one -/
theorem tail_is {t : Nat} (h : t < 2 ^ 23) : FP.Core.val32 (FP.fsub (fB (127 * 2 ^ 23 + t)) FP.fconst1) ≠ .nan ∧ FP.Core.val32 (FP.fmul (FP.fsub (fB (127 * 2 ^ 23 + t)) FP.fconst1) c8388608) ≠ .nan ∧ FP.f2i (FP.fmul (FP.fsub (fB (127 * 2 ^ 23 + t)) FP.fconst1) c8388608) = nI t := by
  have nx := fB_nn (n := 127 * 2 ^ 23 + t) (by omega)
  have ex : fz (fB (127 * 2 ^ 23 + t)) = (((2 ^ 23 + t) * 2 ^ 126 : Nat) : Int) := by
    rw [fB_fz (by omega), units_norm (by omega), show (127 * 2 ^ 23 + t) % 2 ^ 23 = t by omega, show (127 * 2 ^ 23 + t) / 2 ^ 23 - 1 = 126 by omega]
  have eO : fO = ((2 ^ 23 * 2 ^ 126 : Nat) : Int) := by decide +kernel
  obtain ⟨V, hV, eV⟩ := exact_is (c := t) (q := -23) (by omega) (by decide) (by decide)
  have eV2 : fz V = ((t * 2 ^ 126 : Nat) : Int) := eV
  have ed : fz (fB (127 * 2 ^ 23 + t)) - fz FP.fconst1 = fz V := by
    rw [ex, fz_one, eO, eV2, Nat.add_mul]
    omega
  have hn := ne_sub nx.1 nn_one.1
  have u1 : fz (FP.fsub (fB (127 * 2 ^ 23 + t)) FP.fconst1) ≤ fz V := fz_sub_le nx.1 nn_one.1 hV.ne (Int.le_of_eq ed)
  have u2 : fz V ≤ fz (FP.fsub (fB (127 * 2 ^ 23 + t)) FP.fconst1) := fz_sub_ge nx.1 nn_one.1 hV.ne (Int.le_of_eq ed.symm)
  have gV := hV.ge
  have hs : nn (FP.fsub (fB (127 * 2 ^ 23 + t)) FP.fconst1) := ⟨fin_mid hn hV.1 u1 (by omega), sgn_sub nx nn_one.1 (by omega)⟩
  generalize hr : FP.fsub (fB (127 * 2 ^ 23 + t)) FP.fconst1 = r at hn u1 u2 hs ⊢
  have hn2 := ne_mul hs.1 c8_is.1.1
  have nt := i2f_nn (a := t) (by omega)
  have et := i2f_fz (a := t) (by omega)
  have k : fz r * fz c8388608 = fz (FP.i2f (nI t)) * fO := by
    rw [show fz r = ((t * 2 ^ 126 : Nat) : Int) by omega, c8_is.2, et, Int.natCast_mul]
    have e2 : ((2 ^ 126 : Nat) : Int) * 8388608 = fO := by decide +kernel
    rw [show (t : Int) * ((2 ^ 126 : Nat) : Int) * (8388608 * fO) = (t : Int) * (((2 ^ 126 : Nat) : Int) * 8388608) * fO by ac_rfl, e2]
  have w1 : fz (FP.fmul r c8388608) ≤ fz (FP.i2f (nI t)) := fz_mul_le hs.1 c8_is.1.1 nt.ne (Int.le_of_eq k)
  have w2 : fz (FP.i2f (nI t)) ≤ fz (FP.fmul r c8388608) := fz_mul_ge hs.1 c8_is.1.1 nt.ne (Int.le_of_eq k.symm)
  have gt := nt.ge
  have e : FP.fmul r c8388608 = FP.i2f (nI t) := fz_inj ⟨fin_mid hn2 nt.1 w1 (by omega), sgn_mul hs c8_is.1⟩ nt (by omega)
  refine ⟨hn, hn2, ?_⟩
  rw [e]
  exact FP.Core.f2i_int (FP.Core.i2f_int (a := nI t) (by rw [nI_toInt (by omega)]; simp; omega))
theorem shl23 {e : Nat} (h : e < 255) : (nI e) <<< ((nI 23 : Int32) &&& 31) = nI (e * 2 ^ 23) := by
  have key : ∀ e, e < 255 → (nI e) <<< ((nI 23 : Int32) &&& 31) = nI (e * 2 ^ 23) := by decide +kernel
  exact key e h
/-- a level's bits: none, or those of a number that is neither small nor great -/
theorem lvI.bits {K : Nat} {x : UInt32} (h : lvI K x) (hK : K ≤ 2 ^ 24) : x = fB 0 ∨ (115 * 2 ^ 23 ≤ x.toNat ∧ x.toNat ≤ 151 * 2 ^ 23) := by
  rcases h.2.2 with z | z
  · left
    have : fz x = fz FP.fconst0 := by rw [z, fz_zero]
    exact fz_inj h.1 nn_zero this
  · right
    have h1 := fz_bits f4096_is.1 h.1 (by have := f4096_is.2; omega)
    have n2 := fB_nn (n := 151 * 2 ^ 23) (by decide)
    have e2 : fz (fB (151 * 2 ^ 23)) = 16777216 * fO := by decide +kernel
    have h2 := fz_bits h.1 n2 (by
      rw [e2]
      exact Int.le_trans h.2.1 (Int.mul_le_mul_of_nonneg_right (by omega) (Int.le_of_lt fO_pos)))
    rw [fB_nat (by decide)] at h2
    exact ⟨h1, h2⟩
