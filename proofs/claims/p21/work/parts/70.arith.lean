/-! the law's sums, products, quotients are the machine's -/
theorem rr_ne (n : Nat) (p : Int) : FP.Core.roundRatio FP.Core.b32 false n 1 p ≠ .nan := FP.Core.roundRatio_ne_nan _ _ _ _ _
theorem pk_is {n : Nat} {p : Int} {x : UInt32} (hx : FP.Core.val32 x = FP.Core.roundRatio FP.Core.b32 false n 1 p) (h : n ≠ 0) (h1 : -149 ≤ (n.log2 : Int) + p - 23) (h2 : (n.log2 : Int) + p - 22 ≤ 104) : pkF n p = x.toNat := by
  have e := pkF_val h h1 h2
  have k : fB (pkF n p) = x := FP.Core.val32_inj (by rw [e]; exact rr_ne _ _) (by rw [e, hx])
  have hl := pkF_lt (n := n) h2
  rw [← k, fB_nat (by omega)]
theorem val_zero {x : UInt32} (h : FP.Core.val32 x = .fin false 0 FP.Core.b32.qmin) : x.toNat = 0 := by
  have k : x = 0 := FP.Core.val32_inj (by rw [h]; exact fun z => by cases z) (by rw [h, FP.Core.val32_zero])
  rw [k]
  rfl
theorem fB_zero : FP.Core.val32 (fB 0) = .fin false 0 FP.Core.b32.qmin := by decide +kernel
/-- a number's bits: none, or those of a number that is neither too small nor too great -/
def bN (A : Nat) : Prop := A = 0 ∨ (2 ^ 23 ≤ A ∧ A < 255 * 2 ^ 23)
theorem bN.lt {A : Nat} (h : bN A) : A < 2139095040 := by
  rcases h with z | z <;> omega
def stF (A : Nat) : Nat := if A = 0 then 0 else 2 ^ 23 + A % 2 ^ 23
def poF (A : Nat) : Int := ((A / 2 ^ 23 : Nat) : Int) - 150
theorem bN.val {A : Nat} (h : bN A) : ∃ q : Int, FP.Core.val32 (fB A) = .fin false (stF A) q ∧ (A ≠ 0 → q = poF A) ∧ (A = 0 → q = FP.Core.b32.qmin) := by
  rcases h with z | ⟨z1, z2⟩
  · subst z
    exact ⟨_, fB_zero, fun h => absurd rfl h, fun _ => rfl⟩
  · refine ⟨poF A, ?_, fun _ => rfl, fun z => by omega⟩
    rw [fB_val z1 z2]
    unfold stF
    rw [if_neg (by omega)]
    rfl
theorem stF_b {A : Nat} (h : A ≠ 0) : 2 ^ 23 ≤ stF A ∧ stF A < 2 ^ 24 := by
  unfold stF
  rw [if_neg h]
  omega
theorem log2_is {n k : Nat} (h1 : 2 ^ k ≤ n) (h2 : n < 2 ^ (k + 1)) : n.log2 = k := by
  have h0 : n ≠ 0 := by have := Nat.two_pow_pos k; omega
  have a := (log2_le h0).mp h1
  have b := (log2_lt h0).mp h2
  omega
theorem whole_is {n : Nat} (h : n < 2 ^ 24) : pkF n 0 = (FP.i2f (nI n)).toNat := by
  have hv : FP.Core.val32 (FP.i2f (nI n)) = FP.Core.roundRatio FP.Core.b32 false n 1 0 := by
    show FP.Core.val32 (FP.Core.i2f (nI n)) = _
    rw [FP.Core.val32_i2f]
    show FP.Core.roundRatio FP.Core.b32 (decide ((nI n).toInt < 0)) (nI n).toInt.natAbs 1 0 = _
    rw [nI_toInt (by omega), decide_eq_false (by omega)]
    rfl
  by_cases z : n = 0
  · subst z
    rw [val_zero (x := FP.i2f (nI 0)) (by rw [hv]; rfl)]
    rfl
  · have := (log2_lt (k := 24) z).mp h
    exact pk_is hv z (by omega) (by omega)
theorem times_is {A B : Nat} (hA : bN A) (hB : bN B) (h1 : A ≠ 0 → B ≠ 0 → 128 ≤ A / 2 ^ 23 + B / 2 ^ 23 ∧ A / 2 ^ 23 + B / 2 ^ 23 ≤ 379) : pkF (stF A * stF B) (poF A + poF B) = (FP.fmul (fB A) (fB B)).toNat ∧ stF A * stF B < 2 ^ 48 ∧ (stF A * stF B ≠ 0 → -149 ≤ ((stF A * stF B).log2 : Int) + (poF A + poF B) - 23) ∧ (stF A * stF B ≠ 0 → ((stF A * stF B).log2 : Int) + (poF A + poF B) - 22 ≤ 104) := by
  obtain ⟨q, e1, q1, q2⟩ := hA.val
  obtain ⟨r, e2, r1, r2⟩ := hB.val
  have hv : FP.Core.val32 (FP.fmul (fB A) (fB B)) = FP.Core.roundRatio FP.Core.b32 false (stF A * stF B) 1 (q + r) := by
    show FP.Core.val32 (FP.Core.fmul (fB A) (fB B)) = _
    rw [FP.Core.val32_fmul, e1, e2]
    rfl
  by_cases zA : A = 0
  · have e0 : stF A = 0 := by unfold stF; rw [if_pos zA]
    rw [e0, Nat.zero_mul] at hv ⊢
    refine ⟨?_, by decide, fun z => absurd rfl z, fun z => absurd rfl z⟩
    rw [val_zero (x := FP.fmul (fB A) (fB B)) (by rw [hv]; rfl)]
    rfl
  · by_cases zB : B = 0
    · have e0 : stF B = 0 := by unfold stF; rw [if_pos zB]
      rw [e0, Nat.mul_zero] at hv ⊢
      refine ⟨?_, by decide, fun z => absurd rfl z, fun z => absurd rfl z⟩
      rw [val_zero (x := FP.fmul (fB A) (fB B)) (by rw [hv]; rfl)]
      rfl
    · obtain ⟨w1, w2⟩ := h1 zA zB
      have sA := stF_b zA
      have sB := stF_b zB
      rw [q1 zA, r1 zB] at hv
      have m1' : 2 ^ 23 * 2 ^ 23 ≤ stF A * stF B := Nat.mul_le_mul sA.1 sB.1
      have m1 : 2 ^ 46 ≤ stF A * stF B := by omega
      have m2 : stF A * stF B < 2 ^ 48 := by
        have m2' : stF A * stF B < 2 ^ 24 * 2 ^ 24 := Nat.mul_lt_mul'' sA.2 sB.2
        omega
      have n0 : stF A * stF B ≠ 0 := by omega
      have l1 := (log2_le (k := 46) n0).mp m1
      have l2 := (log2_lt (k := 48) n0).mp m2
      unfold poF at hv ⊢
      exact ⟨pk_is hv n0 (by omega) (by omega), m2, fun _ => by omega, fun _ => by omega⟩
/-- a rest told by one bit rounds alike -/
theorem sticky {num d W : Nat} (hd : 0 < d) (hW : 0 < W) (h2 : W % 2 = 0) : FP.Core.nearest num d = FP.Core.nearest (2 * (num * W / d) + (if num * W % d = 0 then 0 else 1)) (2 * W) := by
  have d1 := Nat.div_add_mod num d
  have d2 := Nat.mod_lt num hd
  generalize hk : num / d = k at d1
  generalize hr : num % d = r at d1 d2
  have e1 : num * W = d * (k * W) + r * W := by
    rw [← d1, Nat.add_mul, Nat.mul_assoc]
  have f1 := Nat.div_add_mod (r * W) d
  have f2 := Nat.mod_lt (r * W) hd
  generalize hy : r * W / d = y at f1
  generalize hs : r * W % d = s at f1 f2
  have e2 : num * W / d = k * W + y := by
    rw [e1, Nat.mul_add_div hd, hy]
  have e3 : num * W % d = s := by
    rw [e1, Nat.mul_add_mod, hs]
  have hyW : y < W := by
    rw [← hy, Nat.div_lt_iff_lt_mul hd, Nat.mul_comm W d]
    exact Nat.mul_lt_mul_of_pos_right d2 hW
  rw [e2, e3]
  obtain ⟨st, hst, hst2⟩ : ∃ st, (if s = 0 then 0 else 1) = st ∧ ((s = 0 ∧ st = 0) ∨ (s ≠ 0 ∧ st = 1)) := by
    by_cases z : s = 0
    · exact ⟨0, if_pos z, Or.inl ⟨z, rfl⟩⟩
    · exact ⟨1, if_neg z, Or.inr ⟨z, rfl⟩⟩
  rw [hst]
  have g : 2 * (k * W + y) + st = (2 * W) * k + (2 * y + st) := by
    rw [Nat.mul_add, Nat.mul_assoc 2 W k, Nat.mul_comm k W, Nat.add_assoc]
  have q1 : (2 * (k * W + y) + st) / (2 * W) = k := by
    rw [g, Nat.mul_add_div (by omega), Nat.div_eq_of_lt (by omega), Nat.add_zero]
  have q2 : (2 * (k * W + y) + st) % (2 * W) = 2 * y + st := by
    rw [g, Nat.mul_add_mod, Nat.mod_eq_of_lt (by omega)]
  unfold FP.Core.nearest
  rw [q1, q2, hk, hr]
  -- 2 r against d as 2 (d y + s) against d W
  have c1 : 2 * r < d ↔ 2 * (d * y + s) < d * W := by
    rw [f1, ← Nat.mul_assoc]
    exact (Nat.mul_lt_mul_right hW).symm
  have c2 : d < 2 * r ↔ d * W < 2 * (d * y + s) := by
    rw [f1, ← Nat.mul_assoc]
    exact (Nat.mul_lt_mul_right hW).symm
  have res : (2 * r < d ∧ 2 * (2 * y + st) < 2 * W) ∨ (d < 2 * r ∧ 2 * W < 2 * (2 * y + st)) ∨ (2 * r = d ∧ 2 * (2 * y + st) = 2 * W) := by
    rcases Nat.lt_trichotomy (2 * y) W with z | z | z
    · have z2 : 2 * y + 2 ≤ W := by omega
      have := Nat.mul_le_mul_left d z2
      rw [Nat.mul_add, Nat.mul_comm d (2 * y), Nat.mul_assoc, Nat.mul_comm y d] at this
      exact Or.inl ⟨c1.mpr (by omega), by omega⟩
    · have e : d * W = 2 * (d * y) := by rw [← z, ← Nat.mul_assoc, Nat.mul_comm d 2, Nat.mul_assoc]
      rcases hst2 with ⟨s0, t0⟩ | ⟨s0, t0⟩
      · refine Or.inr (Or.inr ⟨?_, by omega⟩)
        have n1 : ¬ 2 * r < d := fun w => by have := c1.mp w; omega
        have n2 : ¬ d < 2 * r := fun w => by have := c2.mp w; omega
        omega
      · exact Or.inr (Or.inl ⟨c2.mpr (by omega), by omega⟩)
    · have := Nat.mul_lt_mul_of_pos_left z hd
      rw [Nat.mul_comm d (2 * y), Nat.mul_assoc, Nat.mul_comm y d] at this
      exact Or.inr (Or.inl ⟨c2.mpr (by omega), by omega⟩)
  rcases res with ⟨w1, w2⟩ | ⟨w1, w2⟩ | ⟨w1, w2⟩
  · rw [if_pos w1, if_pos w2]
  · rw [if_neg (show ¬ 2 * r < d by omega), if_pos w1, if_neg (show ¬ 2 * (2 * y + st) < 2 * W by omega), if_pos w2]
  · rw [if_neg (show ¬ 2 * r < d by omega), if_neg (show ¬ d < 2 * r by omega), if_neg (show ¬ 2 * (2 * y + st) < 2 * W by omega), if_neg (show ¬ 2 * W < 2 * (2 * y + st) by omega)]
/-- the digits of a quotient, and whether there is a rest -/
def ovN (c d : Nat) : Nat := 2 * (c * 2 ^ 30 / d) + (if c * 2 ^ 30 % d = 0 then 0 else 1)
theorem over_rr {c d : Nat} {e : Int} (c1 : 2 ^ 23 ≤ c) (c2 : c < 2 ^ 24) (d1 : 2 ^ 23 ≤ d) (d2 : d < 2 ^ 24) (he : -100 ≤ e) : (2 ^ 30 ≤ ovN c d ∧ ovN c d < 2 ^ 32) ∧ FP.Core.roundRatio FP.Core.b32 false c d e = FP.Core.roundRatio FP.Core.b32 false (ovN c d) 1 (e - 31) := by
  have hd : 0 < d := by omega
  have lc := log2_is (n := c) (k := 23) c1 c2
  have ld := log2_is (n := d) (k := 23) d1 d2
  have key : ∀ (K : Int), (K = 0 ∨ K = -1) → FP.Core.leading c d = K → 2 ^ (K + 31).toNat ≤ ovN c d → ovN c d < 2 ^ ((K + 31).toNat + 1) → FP.Core.roundRatio FP.Core.b32 false c d e = FP.Core.roundRatio FP.Core.b32 false (ovN c d) 1 (e - 31) := by
    intro K hK hl o1 o2
    have o0 : ovN c d ≠ 0 := by have := Nat.two_pow_pos (K + 31).toNat; omega
    have lo := log2_is o1 o2
    have qa : FP.Core.quantum FP.Core.b32 c d e = K + e - 23 := by
      unfold FP.Core.quantum
      rw [hl, q32]
      show max (-149 : Int) (K + e - (((24 : Nat) : Int) - 1)) = _
      omega
    have qb : FP.Core.quantum FP.Core.b32 (ovN c d) 1 (e - 31) = K + e - 23 := by
      unfold FP.Core.quantum
      rw [lead1 o0, lo, q32]
      show max (-149 : Int) ((((K + 31).toNat : Nat) : Int) + (e - 31) - (((24 : Nat) : Int) - 1)) = _
      omega
    unfold FP.Core.roundRatio FP.Core.roundAt
    rw [if_neg (by omega), if_neg o0, qa, qb]
    congr 1
    unfold FP.Core.unitsNum FP.Core.unitsDen
    rw [show (e - (K + e - 23)).toNat = (23 - K).toNat by omega, show (K + e - 23 - e).toNat = 0 by omega, show (e - 31 - (K + e - 23)).toNat = 0 by omega, show (K + e - 23 - (e - 31)).toNat = (K + 7).toNat + 1 by omega, Nat.pow_zero, Nat.mul_one, Nat.mul_one, Nat.one_mul]
    have hs := sticky (num := c * 2 ^ (23 - K).toNat) (d := d) (W := 2 ^ (K + 7).toNat) hd (Nat.two_pow_pos _) (by rcases hK with z | z <;> subst z <;> decide)
    rw [Nat.mul_assoc c, ← Nat.pow_add, show (23 - K).toNat + (K + 7).toNat = 30 by omega] at hs
    rw [hs, Nat.pow_succ (2) (K + 7).toNat, Nat.mul_comm (2 ^ (K + 7).toNat) 2]
    rfl
  have hst : (if c * 2 ^ 30 % d = 0 then 0 else 1) < 2 := by split <;> decide
  have hl : FP.Core.leading c d = if d ≤ c then 0 else -1 := by
    unfold FP.Core.leading
    rw [lc, ld]
    simp only [Int.sub_self, Int.toNat_zero, Int.neg_zero, Nat.pow_zero, Nat.mul_one]
    rfl
  by_cases z : d ≤ c
  · rw [if_pos z] at hl
    have m1 : 2 ^ 30 ≤ c * 2 ^ 30 / d := (Nat.le_div_iff_mul_le hd).mpr (by rw [Nat.mul_comm]; exact Nat.mul_le_mul_right _ z)
    have m2 : c * 2 ^ 30 / d < 2 ^ 31 := (Nat.div_lt_iff_lt_mul hd).mpr (by omega)
    have o1 : 2 ^ 31 ≤ ovN c d := by unfold ovN; omega
    have o2 : ovN c d < 2 ^ 32 := by unfold ovN; omega
    exact ⟨⟨by omega, o2⟩, key 0 (Or.inl rfl) hl o1 o2⟩
  · rw [if_neg z] at hl
    have m1 : 2 ^ 29 ≤ c * 2 ^ 30 / d := (Nat.le_div_iff_mul_le hd).mpr (by omega)
    have m2 : c * 2 ^ 30 / d < 2 ^ 30 := (Nat.div_lt_iff_lt_mul hd).mpr (by omega)
    have o1 : 2 ^ 30 ≤ ovN c d := by unfold ovN; omega
    have o2 : ovN c d < 2 ^ 31 := by unfold ovN; omega
    exact ⟨⟨o1, by omega⟩, key (-1) (Or.inr rfl) hl o1 o2⟩
theorem over_is {A B : Nat} (hA : bN A) (hB : bN B) (hB0 : B ≠ 0) (h1 : A ≠ 0 → -99 ≤ poF A - poF B ∧ poF A - poF B ≤ 100) : pkF (ovN (stF A) (stF B)) (poF A - poF B - 31) = (FP.fdiv (fB A) (fB B)).toNat ∧ ovN (stF A) (stF B) < 2 ^ 32 ∧ (ovN (stF A) (stF B) ≠ 0 → -149 ≤ ((ovN (stF A) (stF B)).log2 : Int) + (poF A - poF B - 31) - 23) ∧ (ovN (stF A) (stF B) ≠ 0 → ((ovN (stF A) (stF B)).log2 : Int) + (poF A - poF B - 31) - 22 ≤ 104) := by
  obtain ⟨q, e1, q1, q2⟩ := hA.val
  obtain ⟨r, e2, r1, r2⟩ := hB.val
  have sB := stF_b hB0
  have hv : FP.Core.val32 (FP.fdiv (fB A) (fB B)) = FP.Core.roundRatio FP.Core.b32 false (stF A) (stF B) (q - r) := by
    show FP.Core.val32 (FP.Core.fdiv (fB A) (fB B)) = _
    rw [FP.Core.val32_fdiv, e1, e2]
    show (if stF B = 0 then _ else _) = _
    rw [if_neg (by omega)]
    rfl
  by_cases zA : A = 0
  · have e0 : stF A = 0 := by unfold stF; rw [if_pos zA]
    have o0 : ovN 0 (stF B) = 0 := by
      unfold ovN
      rw [Nat.zero_mul, Nat.zero_div, Nat.zero_mod]
      rfl
    rw [e0] at hv ⊢
    rw [o0]
    refine ⟨?_, by decide, fun z => absurd rfl z, fun z => absurd rfl z⟩
    rw [val_zero (x := FP.fdiv (fB A) (fB B)) (by rw [hv]; rfl)]
    rfl
  · have sA := stF_b zA
    rw [q1 zA, r1 hB0] at hv
    obtain ⟨w1, w2⟩ := h1 zA
    obtain ⟨⟨o1, o2⟩, o3⟩ := over_rr (e := poF A - poF B) sA.1 sA.2 sB.1 sB.2 (by omega)
    rw [o3] at hv
    have n0 : ovN (stF A) (stF B) ≠ 0 := by omega
    have l1 := (log2_le (k := 30) n0).mp o1
    have l2 := (log2_lt (k := 32) n0).mp o2
    exact ⟨pk_is hv n0 (by omega) (by omega), o2, fun _ => by omega, fun _ => by omega⟩
theorem add_zero {A B : Nat} (hB : bN B) (z : A = 0) : (FP.fadd (fB A) (fB B)).toNat = B ∧ (FP.fadd (fB B) (fB A)).toNat = B := by
  subst z
  have nB := fB_nn hB.lt
  have n0 : nn (fB 0) := fB_nn (by decide)
  have f0 : fz (fB 0) = 0 := by decide +kernel
  have gB := nB.ge
  have key : ∀ x : UInt32, FP.Core.val32 x ≠ .nan → FP.Core.sgn (FP.Core.val32 x) = false → fz x ≤ fz (fB B) → fz (fB B) ≤ fz x → x.toNat = B := fun x h1 h2 h3 h4 => by
    have : x = fB B := fz_inj ⟨fin_mid h1 nB.1 h3 (by omega), h2⟩ nB (by omega)
    rw [this, fB_nat (by have := hB.lt; omega)]
  exact ⟨key _ (ne_add n0.1 nB.1) (sgn_add n0 nB.1 (by omega)) (fz_add_le n0.1 nB.1 nB.ne (by omega)) (fz_add_ge n0.1 nB.1 nB.ne (by omega)), key _ (ne_add nB.1 n0.1) (sgn_add nB n0.1 (by omega)) (fz_add_le nB.1 n0.1 nB.ne (by omega)) (fz_add_ge nB.1 n0.1 nB.ne (by omega))⟩
/-- the sum of two that are not 0, the greater power first -/
theorem plus_rr {A B : Nat} (hA : bN A) (hB : bN B) (zA : A ≠ 0) (zB : B ≠ 0) (h : poF B ≤ poF A) : FP.Core.val32 (FP.fadd (fB A) (fB B)) = FP.Core.roundRatio FP.Core.b32 false (stF A * 2 ^ (poF A - poF B).toNat + stF B) 1 (poF B) ∧ FP.Core.val32 (FP.fadd (fB B) (fB A)) = FP.Core.roundRatio FP.Core.b32 false (stF A * 2 ^ (poF A - poF B).toNat + stF B) 1 (poF B) := by
  obtain ⟨q, e1, q1, q2⟩ := hA.val
  obtain ⟨r, e2, r1, r2⟩ := hB.val
  rw [q1 zA] at e1
  rw [r1 zB] at e2
  have u1 : FP.Core.inUnits (stF A) (poF A) (poF B) = stF A * 2 ^ (poF A - poF B).toNat := rfl
  have u2 : FP.Core.inUnits (stF B) (poF B) (poF B) = stF B := by
    unfold FP.Core.inUnits
    rw [Int.sub_self]
    exact Nat.mul_one _
  have hs : ∀ a b : Nat, FP.Core.sumSign false false ((a : Int) + (b : Int)) = false := fun a b => by
    unfold FP.Core.sumSign
    split
    · rfl
    · exact decide_eq_false (by omega)
  refine ⟨?_, ?_⟩
  · show FP.Core.val32 (FP.Core.fadd (fB A) (fB B)) = _
    rw [FP.Core.val32_fadd, e1, e2]
    show FP.Core.roundRatio FP.Core.b32 (FP.Core.sumSign false false (FP.Core.sumUnits false (stF A) (poF A) false (stF B) (poF B) (min (poF A) (poF B)))) (FP.Core.sumUnits false (stF A) (poF A) false (stF B) (poF B) (min (poF A) (poF B))).natAbs 1 (min (poF A) (poF B)) = _
    rw [show min (poF A) (poF B) = poF B by omega]
    have e : FP.Core.sumUnits false (stF A) (poF A) false (stF B) (poF B) (poF B) = ((stF A * 2 ^ (poF A - poF B).toNat : Nat) : Int) + ((stF B : Nat) : Int) := by
      unfold FP.Core.sumUnits
      rw [u1, u2]
      rfl
    rw [e, hs, ← Int.natCast_add, Int.natAbs_natCast]
  · show FP.Core.val32 (FP.Core.fadd (fB B) (fB A)) = _
    rw [FP.Core.val32_fadd, e1, e2]
    show FP.Core.roundRatio FP.Core.b32 (FP.Core.sumSign false false (FP.Core.sumUnits false (stF B) (poF B) false (stF A) (poF A) (min (poF B) (poF A)))) (FP.Core.sumUnits false (stF B) (poF B) false (stF A) (poF A) (min (poF B) (poF A))).natAbs 1 (min (poF B) (poF A)) = _
    rw [show min (poF B) (poF A) = poF B by omega]
    have e : FP.Core.sumUnits false (stF B) (poF B) false (stF A) (poF A) (poF B) = ((stF B : Nat) : Int) + ((stF A * 2 ^ (poF A - poF B).toNat : Nat) : Int) := by
      unfold FP.Core.sumUnits
      rw [u1, u2]
      rfl
    rw [e, hs, ← Int.natCast_add, Int.natAbs_natCast, Nat.add_comm]
theorem plus_is {A B : Nat} (hA : bN A) (hB : bN B) (zA : A ≠ 0) (zB : B ≠ 0) (h : poF B ≤ poF A) (h36 : poF A - poF B ≤ 35) (hlo : -149 ≤ poF B) (hhi : poF A ≤ 90) : (pkF (stF A * 2 ^ (poF A - poF B).toNat + stF B) (poF B) = (FP.fadd (fB A) (fB B)).toNat ∧ pkF (stF A * 2 ^ (poF A - poF B).toNat + stF B) (poF B) = (FP.fadd (fB B) (fB A)).toNat) ∧ stF A * 2 ^ (poF A - poF B).toNat + stF B < 2 ^ 60 ∧ (-149 ≤ ((stF A * 2 ^ (poF A - poF B).toNat + stF B).log2 : Int) + poF B - 23) ∧ (((stF A * 2 ^ (poF A - poF B).toNat + stF B).log2 : Int) + poF B - 22 ≤ 104) := by
  have sA := stF_b zA
  have sB := stF_b zB
  obtain ⟨v1, v2⟩ := plus_rr hA hB zA zB h
  obtain ⟨k, hk⟩ : ∃ k : Nat, (poF A - poF B).toNat = k := ⟨_, rfl⟩
  rw [hk] at v1 v2 ⊢
  have hk2 : poF A = poF B + (k : Int) := by omega
  have m0 := Nat.two_pow_pos k
  have m1 : stF A * 2 ^ k < 2 ^ (24 + k) := by
    rw [Nat.pow_add]
    exact Nat.mul_lt_mul_of_pos_right sA.2 m0
  have m2 : 2 ^ 24 ≤ 2 ^ (24 + k) := Nat.pow_le_pow_right (by decide) (by omega)
  have m3 : 2 ^ (24 + k + 1) = 2 ^ (24 + k) * 2 := by rw [Nat.pow_succ]
  have m4 : stF A ≤ stF A * 2 ^ k := Nat.le_mul_of_pos_right _ m0
  have n0 : stF A * 2 ^ k + stF B ≠ 0 := by omega
  have l1 := (log2_le (k := 23) n0).mp (by omega)
  have l2 := (log2_lt (k := 24 + k + 1) n0).mp (by omega)
  have m5 : 2 ^ (24 + k + 1) ≤ 2 ^ 60 := Nat.pow_le_pow_right (by decide) (by omega)
  exact ⟨⟨pk_is v1 n0 (by omega) (by omega), pk_is v2 n0 (by omega) (by omega)⟩, by omega, by omega, by omega⟩
/-- what is left of the point behind -/
theorem cast_is {A : Nat} (hA : bN A) (h : A < 150 * 2 ^ 23) : FP.f2i (fB A) = nI (stF A / 2 ^ (-poF A).toNat) := by
  obtain ⟨q, e1, q1, q2⟩ := hA.val
  show FP.Core.toI (FP.Core.val32 (fB A)) = _
  rw [e1]
  by_cases z : A = 0
  · subst z
    rw [q2 rfl]
    decide +kernel
  · have sA := stF_b z
    rw [q1 z]
    have hp : poF A < 0 := by unfold poF; omega
    show Int32.ofInt (max (-2 ^ 31) (min (2 ^ 31 - 1) (FP.Core.truncate false (stF A) (poF A)))) = _
    have e : FP.Core.truncate false (stF A) (poF A) = ((stF A / 2 ^ (-poF A).toNat : Nat) : Int) := by
      unfold FP.Core.truncate
      rw [show (poF A).toNat = 0 by omega, Nat.pow_zero, Nat.mul_one]
      rfl
    have hl : stF A / 2 ^ (-poF A).toNat ≤ stF A := Nat.div_le_self _ _
    rw [e]
    generalize stF A / 2 ^ (-poF A).toNat = y at hl
    refine o_nI ?_
    have b1 : (y : Int) ≤ 2 ^ 31 - 1 := by omega
    rw [Int.min_eq_right b1]
    exact Int.max_eq_right (by omega)
