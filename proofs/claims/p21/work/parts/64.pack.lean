/-! what the law packs: a number's digits and its last one's power -/
def pkB (c : Nat) (q : Int) : Nat := (q + 150).toNat * 2 ^ 23 + (c - 2 ^ 23)
theorem pkB_lt {c : Nat} {q : Int} (h2 : c < 2 ^ 24) (h4 : q ≤ 104) : pkB c q < 255 * 2 ^ 23 := by
  unfold pkB
  have : (q + 150).toNat ≤ 254 := by omega
  omega
theorem pkB_val {c : Nat} {q : Int} (h1 : 2 ^ 23 ≤ c) (h2 : c < 2 ^ 24) (h3 : -149 ≤ q) (h4 : q ≤ 104) : FP.Core.val32 (fB (pkB c q)) = .fin false c q := by
  have hn := pkB_lt h2 h4
  have e1 : 1 ≤ (q + 150).toNat := by omega
  have e2 : (q + 150).toNat ≤ 254 := by omega
  have e3 : ((q + 150).toNat : Int) = q + 150 := by omega
  show FP.Core.decode FP.Core.b32 (fB (pkB c q)).toNat = _
  rw [fB_nat (by omega)]
  have eE : FP.Core.fieldE FP.Core.b32 (pkB c q) = (q + 150).toNat := by
    show pkB c q / 2 ^ 23 % 2 ^ 8 = _
    unfold pkB
    omega
  have eT : FP.Core.fieldT FP.Core.b32 (pkB c q) = c - 2 ^ 23 := by
    show pkB c q % 2 ^ 23 = _
    unfold pkB
    omega
  have eS : FP.Core.fieldS FP.Core.b32 (pkB c q) = false := by
    show (pkB c q / 2 ^ 23 / 2 ^ 8 % 2 == 1) = false
    have : pkB c q / 2 ^ 23 / 2 ^ 8 = 0 := by unfold pkB; omega
    rw [this]
    rfl
  unfold FP.Core.decode
  rw [eE, eT, eS, if_neg (by show ¬ (q + 150).toNat = 255; omega), if_neg (by omega)]
  have t1 : FP.Core.b32.tails + (c - 2 ^ 23) = c := by
    show 2 ^ 23 + (c - 2 ^ 23) = c
    omega
  have t2 : FP.Core.b32.qmin + (((q + 150).toNat : Int) - 1) = q := by rw [q32, e3]; omega
  rw [t1, t2]
theorem fB_val {A : Nat} (h1 : 2 ^ 23 ≤ A) (h2 : A < 255 * 2 ^ 23) : FP.Core.val32 (fB A) = .fin false (2 ^ 23 + A % 2 ^ 23) (((A / 2 ^ 23 : Nat) : Int) - 150) := by
  have e : A = pkB (2 ^ 23 + A % 2 ^ 23) (((A / 2 ^ 23 : Nat) : Int) - 150) := by
    unfold pkB
    have : (((A / 2 ^ 23 : Nat) : Int) - 150 + 150).toNat = A / 2 ^ 23 := by omega
    rw [this]
    omega
  have k := pkB_val (c := 2 ^ 23 + A % 2 ^ 23) (q := ((A / 2 ^ 23 : Nat) : Int) - 150) (by omega) (by omega) (by omega) (by omega)
  rw [← e] at k
  exact k
theorem lead1 {n : Nat} (h0 : n ≠ 0) : FP.Core.leading n 1 = (n.log2 : Int) := by
  unfold FP.Core.leading
  have h1 : Nat.log2 1 = 0 := by decide
  rw [h1]
  simp only [Int.natCast_zero, Int.sub_zero]
  rw [if_pos]
  have := Nat.log2_self_le h0
  rw [show ((n.log2 : Int)).toNat = n.log2 by omega, show (-(n.log2 : Int)).toNat = 0 by omega]
  omega
/-- the digits that are left, half of the last one, and whether there is a rest -/
def pkI (n : Nat) : Nat := n / 2 ^ (n.log2 - 24) * 2 ^ (24 - n.log2)
def pkR (n : Nat) : Nat := if n % 2 ^ (n.log2 - 24) = 0 then 0 else 1
def pkC (n : Nat) : Nat := pkI n / 2 + (if pkI n % 2 = 1 ∧ (pkR n = 1 ∨ pkI n / 2 % 2 = 1) then 1 else 0)
theorem log2_le {n k : Nat} (h : n ≠ 0) : 2 ^ k ≤ n ↔ k ≤ n.log2 := (Nat.le_log2 h).symm
theorem log2_lt {n k : Nat} (h : n ≠ 0) : n < 2 ^ k ↔ n.log2 < k := Nat.log2_lt h |>.symm
theorem pow_div_le {n j k : Nat} : 2 ^ k ≤ n / 2 ^ j ↔ 2 ^ (k + j) ≤ n := by
  rw [Nat.le_div_iff_mul_le (Nat.two_pow_pos j), Nat.pow_add]
theorem pkI_b {n : Nat} (h : n ≠ 0) : 2 ^ 24 ≤ pkI n ∧ pkI n < 2 ^ 25 := by
  unfold pkI
  have l1 := Nat.log2_self_le h
  have l2 : n < 2 ^ (n.log2 + 1) := Nat.lt_log2_self
  rcases Nat.lt_or_ge n.log2 24 with c | c
  · rw [show n.log2 - 24 = 0 by omega, Nat.pow_zero, Nat.div_one]
    refine ⟨?_, ?_⟩
    · have := Nat.mul_le_mul_right (2 ^ (24 - n.log2)) l1
      rw [← Nat.pow_add, show n.log2 + (24 - n.log2) = 24 by omega] at this
      exact this
    · have := Nat.mul_lt_mul_of_pos_right l2 (Nat.two_pow_pos (24 - n.log2))
      rw [← Nat.pow_add, show n.log2 + 1 + (24 - n.log2) = 25 by omega] at this
      exact this
  · rw [show 24 - n.log2 = 0 by omega, Nat.pow_zero, Nat.mul_one]
    refine ⟨pow_div_le.mpr (by rw [show 24 + (n.log2 - 24) = n.log2 by omega]; exact l1), ?_⟩
    rw [Nat.div_lt_iff_lt_mul (Nat.two_pow_pos _), ← Nat.pow_add, show 25 + (n.log2 - 24) = n.log2 + 1 by omega]
    exact l2
theorem pkC_b {n : Nat} (h : n ≠ 0) : 2 ^ 23 ≤ pkC n ∧ pkC n ≤ 2 ^ 24 := by
  have := pkI_b h
  unfold pkC
  split <;> omega
theorem near_is {n : Nat} {p : Int} (h : n ≠ 0) : FP.Core.nearest (FP.Core.unitsNum n p ((n.log2 : Int) + p - 23)) (FP.Core.unitsDen 1 p ((n.log2 : Int) + p - 23)) = pkC n := by
  unfold FP.Core.unitsNum FP.Core.unitsDen
  have e1 : (p - ((n.log2 : Int) + p - 23)).toNat = 23 - n.log2 := by omega
  have e2 : ((n.log2 : Int) + p - 23 - p).toNat = n.log2 - 23 := by omega
  rw [e1, e2, Nat.one_mul]
  rcases Nat.lt_or_ge n.log2 24 with c | c
  · rw [show n.log2 - 23 = 0 by omega, Nat.pow_zero]
    have eI : pkI n = 2 * (n * 2 ^ (23 - n.log2)) := by
      unfold pkI
      rw [show n.log2 - 24 = 0 by omega, Nat.pow_zero, Nat.div_one, show 24 - n.log2 = 23 - n.log2 + 1 by omega, Nat.pow_succ]
      ac_rfl
    unfold pkC
    rw [eI]
    generalize n * 2 ^ (23 - n.log2) = x
    unfold FP.Core.nearest
    rw [if_pos (by omega), if_neg (by omega), Nat.div_one]
    omega
  · rw [show 23 - n.log2 = 0 by omega, Nat.pow_zero, Nat.mul_one]
    obtain ⟨s, hs⟩ : ∃ s, n.log2 = 24 + s := ⟨n.log2 - 24, by omega⟩
    have eI : pkI n = n / 2 ^ s := by
      unfold pkI
      rw [hs, show 24 - (24 + s) = 0 by omega, Nat.pow_zero, Nat.mul_one, show 24 + s - 24 = s by omega]
    have eR : pkR n = if n % 2 ^ s = 0 then 0 else 1 := by
      unfold pkR
      rw [hs, show 24 + s - 24 = s by omega]
    unfold pkC
    rw [eI, eR, hs, show 24 + s - 23 = s + 1 by omega, Nat.pow_succ]
    have hM := Nat.two_pow_pos s
    generalize 2 ^ s = M at hM
    have d1 : n = M * (n / M) + n % M := (Nat.div_add_mod n M).symm
    have d2 := Nat.mod_lt n hM
    generalize n / M = i at d1
    generalize n % M = r at d1 d2
    have e3 : n / (M * 2) = i / 2 := by
      rw [d1, Nat.mul_comm M 2]
      rw [← Nat.div_div_eq_div_mul, Nat.div_div_eq_div_mul, Nat.mul_comm 2 M, ← Nat.div_div_eq_div_mul]
      rw [Nat.mul_add_div hM, Nat.div_eq_of_lt d2, Nat.add_zero]
    have e4 : n % (M * 2) = M * (i % 2) + r := by
      have q := Nat.div_add_mod n (M * 2)
      rw [e3] at q
      have q2 : M * 2 * (i / 2) + M * (i % 2) = M * i := by
        rw [Nat.mul_assoc, ← Nat.mul_add, Nat.div_add_mod]
      omega
    unfold FP.Core.nearest
    rw [e3, e4]
    rcases (show i % 2 = 0 ∨ i % 2 = 1 by omega) with z | z
    · rw [z, Nat.mul_zero, if_pos (by omega), if_neg (by omega)]
      omega
    · rw [z, Nat.mul_one, if_neg (by omega)]
      rcases Nat.eq_zero_or_pos r with y | y
      · rw [if_neg (by omega)]
        subst y
        by_cases w : i / 2 % 2 = 1
        · rw [if_pos ⟨rfl, Or.inr w⟩, w]
        · rw [if_neg (by simp [w])]
          omega
      · rw [if_pos (by omega), if_pos ⟨rfl, Or.inl (if_neg (by omega))⟩]
/-- the bits that are packed -/
def pkF (n : Nat) (p : Int) : Nat := if n = 0 then 0 else if pkC n = 2 ^ 24 then pkB (2 ^ 23) ((n.log2 : Int) + p - 22) else pkB (pkC n) ((n.log2 : Int) + p - 23)
theorem pkF_val {n : Nat} {p : Int} (h : n ≠ 0) (h1 : -149 ≤ (n.log2 : Int) + p - 23) (h2 : (n.log2 : Int) + p - 22 ≤ 104) : FP.Core.val32 (fB (pkF n p)) = FP.Core.roundRatio FP.Core.b32 false n 1 p := by
  have hC := pkC_b h
  unfold FP.Core.roundRatio FP.Core.roundAt pkF
  have hq : FP.Core.quantum FP.Core.b32 n 1 p = (n.log2 : Int) + p - 23 := by
    unfold FP.Core.quantum
    rw [lead1 h, q32]
    show max (-149 : Int) ((n.log2 : Int) + p - (((24 : Nat) : Int) - 1)) = _
    omega
  rw [if_neg h, if_neg h, hq, near_is h]
  unfold FP.Core.settle FP.Core.bound
  by_cases c : pkC n = 2 ^ 24
  · rw [if_pos c, if_neg (by rw [c]; exact Nat.lt_irrefl _), if_pos (by rw [qmax32]; omega)]
    rw [pkB_val (by decide) (by decide) (by omega) (by omega)]
    rw [show (n.log2 : Int) + p - 23 + 1 = (n.log2 : Int) + p - 22 by omega]
    rfl
  · rw [if_neg c, if_pos (by show pkC n < 2 ^ 24; omega), if_pos (by rw [qmax32]; omega)]
    exact pkB_val hC.1 (by omega) (by omega) (by omega)
theorem pkF_lt {n : Nat} {p : Int} (h2 : (n.log2 : Int) + p - 22 ≤ 104) : pkF n p < 255 * 2 ^ 23 := by
  unfold pkF
  split
  · decide
  · rename_i h
    have hC := pkC_b h
    split
    · exact pkB_lt (by decide) (by omega)
    · exact pkB_lt (by omega) (by omega)
