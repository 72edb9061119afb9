/-! a phase's load, as the law reckons it -/
theorem lvI.b11 {K : Nat} {x : UInt32} (h : lvI K x) (hK : K ≤ 2048) : x.toNat = 0 ∨ (115 * 2 ^ 23 ≤ x.toNat ∧ x.toNat ≤ 138 * 2 ^ 23) := by
  rcases h.bits (by omega) with z | ⟨z, _⟩
  · left
    rw [z]
    exact fB_nat (by decide)
  · right
    have n2 := fB_nn (n := 138 * 2 ^ 23) (by decide)
    have e2 : fz (fB (138 * 2 ^ 23)) = 2048 * fO := by decide +kernel
    have h2 := fz_bits h.1 n2 (by
      rw [e2]
      exact Int.le_trans h.2.1 (Int.mul_le_mul_of_nonneg_right (by omega) (Int.le_of_lt fO_pos)))
    rw [fB_nat (by decide)] at h2
    exact ⟨z, h2⟩
theorem lvI.b18 {K : Nat} {x : UInt32} (h : lvI K x) (hK : K ≤ 262144) : x.toNat = 0 ∨ (115 * 2 ^ 23 ≤ x.toNat ∧ x.toNat ≤ 145 * 2 ^ 23) := by
  rcases h.bits (by omega) with z | ⟨z, _⟩
  · left
    rw [z]
    exact fB_nat (by decide)
  · right
    have n2 := fB_nn (n := 145 * 2 ^ 23) (by decide)
    have e2 : fz (fB (145 * 2 ^ 23)) = 262144 * fO := by decide +kernel
    have h2 := fz_bits h.1 n2 (by
      rw [e2]
      exact Int.le_trans h.2.1 (Int.mul_le_mul_of_nonneg_right (by omega) (Int.le_of_lt fO_pos)))
    rw [fB_nat (by decide)] at h2
    exact ⟨z, h2⟩
theorem whole_b {w : Nat} (h1 : 100 ≤ w) (h2 : w ≤ 2000) : 133 * 2 ^ 23 ≤ (FP.i2f (nI w)).toNat ∧ (FP.i2f (nI w)).toNat ≤ 138 * 2 ^ 23 := by
  have nw := i2f_nn (a := w) (by omega)
  have ew := i2f_fz (a := w) (by omega)
  have n1 := fB_nn (n := 133 * 2 ^ 23) (by decide)
  have e1 : fz (fB (133 * 2 ^ 23)) = 64 * fO := by decide +kernel
  have n2 := fB_nn (n := 138 * 2 ^ 23) (by decide)
  have e2 : fz (fB (138 * 2 ^ 23)) = 2048 * fO := by decide +kernel
  have a := fz_bits n1 nw (by rw [e1, ew]; exact Int.mul_le_mul_of_nonneg_right (by omega) (Int.le_of_lt fO_pos))
  have b := fz_bits nw n2 (by rw [e2, ew]; exact Int.mul_le_mul_of_nonneg_right (by omega) (Int.le_of_lt fO_pos))
  rw [fB_nat (by decide)] at a b
  exact ⟨a, b⟩
theorem pkF_exp {n : Nat} {p : Int} (h : n ≠ 0) (h1 : -149 ≤ (n.log2 : Int) + p - 23) (h2 : (n.log2 : Int) + p - 22 ≤ 104) : (n.log2 : Int) + p + 127 ≤ ((pkF n p / 2 ^ 23 : Nat) : Int) ∧ ((pkF n p / 2 ^ 23 : Nat) : Int) ≤ (n.log2 : Int) + p + 128 ∧ 2 ^ 23 ≤ pkF n p := by
  have hC := pkC_b h
  have key : ∀ (c : Nat) (q : Int), c < 2 ^ 24 → -149 ≤ q → q ≤ 104 → ((pkB c q / 2 ^ 23 : Nat) : Int) = q + 150 ∧ 2 ^ 23 ≤ pkB c q := fun c q hc hq hq2 => by
    unfold pkB
    have : 1 ≤ (q + 150).toNat := by omega
    have e : ((q + 150).toNat : Int) = q + 150 := by omega
    omega
  unfold pkF
  rw [if_neg h]
  split
  · have := key (2 ^ 23) ((n.log2 : Int) + p - 22) (by decide) (by omega) (by omega)
    omega
  · have := key (pkC n) ((n.log2 : Int) + p - 23) (by omega) (by omega) (by omega)
    omega
theorem c100_i : c100 = FP.i2f (nI 100) := by decide +kernel
/-- what the three steps of a load need, and what they give -/
theorem load_step {w X Y : Nat} (h1 : 100 ≤ w) (h2 : w ≤ 2000) (hX : X = 0 ∨ (115 * 2 ^ 23 ≤ X ∧ X ≤ 138 * 2 ^ 23)) (hY : Y = 0 ∨ (115 * 2 ^ 23 ≤ Y ∧ Y ≤ 145 * 2 ^ 23)) : (bN (FP.i2f (nI w)).toNat ∧ bN X ∧ ((FP.i2f (nI w)).toNat ≠ 0 → X ≠ 0 → 128 ≤ (FP.i2f (nI w)).toNat / 2 ^ 23 + X / 2 ^ 23 ∧ (FP.i2f (nI w)).toNat / 2 ^ 23 + X / 2 ^ 23 ≤ 379)) ∧ (bN (FP.fmul (FP.i2f (nI w)) (fB X)).toNat ∧ bN (FP.i2f (nI 100)).toNat ∧ (FP.i2f (nI 100)).toNat ≠ 0 ∧ ((FP.fmul (FP.i2f (nI w)) (fB X)).toNat ≠ 0 → -99 ≤ poF (FP.fmul (FP.i2f (nI w)) (fB X)).toNat - poF (FP.i2f (nI 100)).toNat ∧ poF (FP.fmul (FP.i2f (nI w)) (fB X)).toNat - poF (FP.i2f (nI 100)).toNat ≤ 100)) ∧ bN Y ∧ bN (FP.fdiv (FP.fmul (FP.i2f (nI w)) (fB X)) c100).toNat ∧ (Y ≠ 0 → (FP.fdiv (FP.fmul (FP.i2f (nI w)) (fB X)) c100).toNat ≠ 0 → poF Y - poF (FP.fdiv (FP.fmul (FP.i2f (nI w)) (fB X)) c100).toNat ≤ 35 ∧ poF (FP.fdiv (FP.fmul (FP.i2f (nI w)) (fB X)) c100).toNat - poF Y ≤ 35 ∧ poF Y ≤ 90 ∧ poF (FP.fdiv (FP.fmul (FP.i2f (nI w)) (fB X)) c100).toNat ≤ 90) := by
  obtain ⟨w1, w2⟩ := whole_b h1 h2
  obtain ⟨v1, v2⟩ := whole_b (w := 100) (by decide) (by decide)
  have eA := fB_of (FP.i2f (nI w))
  have eH := fB_of (FP.i2f (nI 100))
  have hH : (FP.i2f (nI 100)).toNat / 2 ^ 23 = 133 := by decide +kernel
  have bX : bN X := by
    rcases hX with z | z
    · exact Or.inl z
    · exact Or.inr (by omega)
  have bA : bN (FP.i2f (nI w)).toNat := Or.inr (by omega)
  have bH : bN (FP.i2f (nI 100)).toNat := Or.inr (by omega)
  have bY : bN Y := by
    rcases hY with z | z
    · exact Or.inl z
    · exact Or.inr (by omega)
  have r1 : (FP.i2f (nI w)).toNat ≠ 0 → X ≠ 0 → 128 ≤ (FP.i2f (nI w)).toNat / 2 ^ 23 + X / 2 ^ 23 ∧ (FP.i2f (nI w)).toNat / 2 ^ 23 + X / 2 ^ 23 ≤ 379 := fun _ hx => by omega
  obtain ⟨t1, t2, t3, t4⟩ := times_is bA bX r1
  rw [eA] at t1
  have hT : (X = 0 ∧ (FP.fmul (FP.i2f (nI w)) (fB X)).toNat = 0) ∨ (X ≠ 0 ∧ 2 ^ 23 ≤ (FP.fmul (FP.i2f (nI w)) (fB X)).toNat ∧ 118 ≤ (FP.fmul (FP.i2f (nI w)) (fB X)).toNat / 2 ^ 23 ∧ (FP.fmul (FP.i2f (nI w)) (fB X)).toNat / 2 ^ 23 ≤ 152) := by
    by_cases z : X = 0
    · refine Or.inl ⟨z, ?_⟩
      rw [← t1]
      have e0 : stF X = 0 := by unfold stF; rw [if_pos z]
      rw [e0, Nat.mul_zero]
      rfl
    · refine Or.inr ⟨z, ?_⟩
      have sA := stF_b (A := (FP.i2f (nI w)).toNat) (by omega)
      have sX := stF_b z
      have m1' : 2 ^ 23 * 2 ^ 23 ≤ stF (FP.i2f (nI w)).toNat * stF X := Nat.mul_le_mul sA.1 sX.1
      have n0 : stF (FP.i2f (nI w)).toNat * stF X ≠ 0 := by omega
      have l1 := (log2_le (k := 46) n0).mp (by omega)
      have l2 := (log2_lt (k := 48) n0).mp t2
      obtain ⟨p1, p2, p3⟩ := pkF_exp n0 (t3 n0) (t4 n0)
      rw [t1] at p1 p2 p3
      unfold poF at p1 p2
      omega
  have bT : bN (FP.fmul (FP.i2f (nI w)) (fB X)).toNat := by
    rcases hT with ⟨_, z⟩ | z
    · exact Or.inl z
    · exact Or.inr (by omega)
  have hH0 : (FP.i2f (nI 100)).toNat ≠ 0 := by omega
  have r2 : (FP.fmul (FP.i2f (nI w)) (fB X)).toNat ≠ 0 → -99 ≤ poF (FP.fmul (FP.i2f (nI w)) (fB X)).toNat - poF (FP.i2f (nI 100)).toNat ∧ poF (FP.fmul (FP.i2f (nI w)) (fB X)).toNat - poF (FP.i2f (nI 100)).toNat ≤ 100 := fun hz => by
    unfold poF
    rcases hT with ⟨_, z⟩ | z
    · exact absurd z hz
    · omega
  refine ⟨⟨bA, bX, r1⟩, ⟨bT, bH, hH0, r2⟩, bY, ?_⟩
  obtain ⟨o1, o2, o3, o4⟩ := over_is bT bH hH0 r2
  rw [fB_of, eH] at o1
  have o1 : pkF (ovN (stF (FP.fmul (FP.i2f (nI w)) (fB X)).toNat) (stF (FP.i2f (nI 100)).toNat)) (poF (FP.fmul (FP.i2f (nI w)) (fB X)).toNat - poF (FP.i2f (nI 100)).toNat - 31) = (FP.fdiv (FP.fmul (FP.i2f (nI w)) (fB X)) c100).toNat := by
    rw [c100_i]
    exact o1
  have hO : (FP.fdiv (FP.fmul (FP.i2f (nI w)) (fB X)) c100).toNat = 0 ∨ (2 ^ 23 ≤ (FP.fdiv (FP.fmul (FP.i2f (nI w)) (fB X)) c100).toNat ∧ 111 ≤ (FP.fdiv (FP.fmul (FP.i2f (nI w)) (fB X)) c100).toNat / 2 ^ 23 ∧ (FP.fdiv (FP.fmul (FP.i2f (nI w)) (fB X)) c100).toNat / 2 ^ 23 ≤ 147) := by
    rcases hT with ⟨z, zT⟩ | ⟨z, zT⟩
    · left
      rw [← o1, zT]
      have e0 : stF 0 = 0 := rfl
      have o0 : ovN 0 (stF (FP.i2f (nI 100)).toNat) = 0 := by
        unfold ovN
        rw [Nat.zero_mul, Nat.zero_div, Nat.zero_mod]
        rfl
      rw [e0, o0]
      rfl
    · right
      have sT := stF_b (A := (FP.fmul (FP.i2f (nI w)) (fB X)).toNat) (by omega)
      have sH := stF_b hH0
      obtain ⟨⟨q1, q2⟩, _⟩ := over_rr (e := 0) sT.1 sT.2 sH.1 sH.2 (by decide)
      have n0 : ovN (stF (FP.fmul (FP.i2f (nI w)) (fB X)).toNat) (stF (FP.i2f (nI 100)).toNat) ≠ 0 := by omega
      have l1 := (log2_le (k := 30) n0).mp q1
      have l2 := (log2_lt (k := 32) n0).mp q2
      obtain ⟨p1, p2, p3⟩ := pkF_exp n0 (o3 n0) (o4 n0)
      rw [o1] at p1 p2 p3
      unfold poF at p1 p2
      omega
  refine ⟨?_, fun y0 z0 => ?_⟩
  · rcases hO with z | z
    · exact Or.inl z
    · exact Or.inr (by omega)
  · unfold poF
    rcases hO with z | z
    · exact absurd z z0
    · omega
theorem ldN_top {ar : Nat → Nat → Int32} {B : Int32} {t : Nat} {GL : List GG} {ph : Int32} : ldN ar 10 B t GL ph 16 = ldN ar 10 B t GL ph 10 := by
  rw [ldN_n (fun z => absurd z.1 (by decide)), ldN_n (fun z => absurd z.1 (by decide)), ldN_n (fun z => absurd z.1 (by decide)), ldN_n (fun z => absurd z.1 (by decide)), ldN_n (fun z => absurd z.1 (by decide)), ldN_n (fun z => absurd z.1 (by decide))]
