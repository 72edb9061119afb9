/-! masters, as the law reckons them; rows apart -/
theorem row_ne {G : XG} {hA : HM} {a b n n' : Nat} {f f' : Nat → Int32} (h1 : hA a = some (rowI G n f)) (h2 : hA b = some (rowI G n' f')) (hn : n ≠ n') : a ≠ b := fun z => by
  subst z
  rw [h1] at h2
  have := Option.some.inj h2
  simp only [rowI, Sum.inl.injEq, Prod.mk.injEq] at this
  exact hn this.2.1
theorem mas_up {u s : Nat} (hu : u ≤ 60) (hs : s ≤ 2 ^ 24) : (u ≤ s → masterR (nI u) (nI s) = FP.fconst1) ∧ (s < u → masterR (nI u) (nI s) = FP.fdiv (FP.i2f (nI s)) (FP.i2f (nI u))) := by
  have hO := fO_pos
  unfold masterR
  by_cases hz : u = 0
  · rw [if_pos ((up0 hu).mpr hz)]
    exact ⟨fun _ => rfl, fun h => by omega⟩
  · rw [if_neg (fun z => hz ((up0 hu).mp z))]
    obtain ⟨n1, n2, n3, e1, e2⟩ := div_nI (t := s) (u := u) hs (by omega) (by omega)
    obtain ⟨h1, h2, h3, h4⟩ := fz_div n1 n2 n3
    refine ⟨fun c => ?_, fun c => ?_⟩
    · have hge : fz FP.fconst1 ≤ fz (FP.fdiv (FP.i2f (nI s)) (FP.i2f (nI u))) := h4 _ nn_one (by
        rw [e1, e2, fz_one]
        have k : (u : Int) ≤ (s : Int) := by omega
        rw [show (s : Int) * fO * fO = (s : Int) * (fO * fO) by ac_rfl, show fO * ((u : Int) * fO) = (u : Int) * (fO * fO) by ac_rfl]
        exact Int.mul_le_mul_of_nonneg_right k (Int.le_of_lt (Int.mul_pos hO hO)))
      exact if_neg (fun z => by have := (cmp_lt h1 nn_one.ne .g).mp z; omega)
    · obtain ⟨s1, s2, s3⟩ := share_lt hu c
      have hlt : fz (FP.fdiv (FP.i2f (nI s)) (FP.i2f (nI u))) < fz FP.fconst1 := by rw [fz_one]; omega
      exact if_pos ((cmp_lt h1 nn_one.ne .g).mpr hlt)
/-- a master of what is not released -/
theorem mas_unrel {ar : Nat → Nat → Int32} {t u : Nat} {g : GG} (h : goI ar t g) (hr : relI g.2.2 = -1) (hu : ar 12 g.1 = nI u) : masP ar t g = masterR (nI u) (nI (t - g.2.1)) := by
  unfold masP masterG
  rw [if_pos hr, hu, sub_nI h.2.2.1]
theorem mas_bits {ar : Nat → Nat → Int32} {t : Nat} {g : GG} (h : goI ar t g) : (masP ar t g).toNat ≤ 1065353216 := by
  have hm := masP_is h
  have := fz_bits hm.1 nn_one (by rw [fz_one]; exact hm.2.1)
  have e : FP.fconst1.toNat = 1065353216 := by decide
  omega
theorem whole_0 {n : Nat} (h : n ≤ 2000) : (n = 0 ∧ (FP.i2f (nI n)).toNat = 0) ∨ (n ≠ 0 ∧ 127 * 2 ^ 23 ≤ (FP.i2f (nI n)).toNat ∧ (FP.i2f (nI n)).toNat ≤ 138 * 2 ^ 23) := by
  by_cases z : n = 0
  · exact Or.inl ⟨z, by rw [z]; decide⟩
  · have nw := i2f_nn (a := n) (by omega)
    have ew := i2f_fz (a := n) (by omega)
    have n2 := fB_nn (n := 138 * 2 ^ 23) (by decide)
    have e2 : fz (fB (138 * 2 ^ 23)) = 2048 * fO := by decide +kernel
    have hO := fO_pos
    have a := fz_bits nn_one nw (by
      rw [fz_one, ew]
      have := Int.mul_le_mul_of_nonneg_right (show (1 : Int) ≤ (n : Int) by omega) (Int.le_of_lt hO)
      omega)
    have b := fz_bits nw n2 (by rw [e2, ew]; exact Int.mul_le_mul_of_nonneg_right (by omega) (Int.le_of_lt hO))
    have e1 : FP.fconst1.toNat = 127 * 2 ^ 23 := by decide
    rw [fB_nat (by decide)] at b
    rw [e1] at a
    exact Or.inr ⟨z, a, b⟩
theorem whole_bN {n : Nat} (h : n ≤ 2000) : bN (FP.i2f (nI n)).toNat := by
  rcases whole_0 h with ⟨_, z⟩ | ⟨_, z1, z2⟩
  · exact Or.inl z
  · exact Or.inr (by omega)
