/-! nearness, both ways -/
theorem absI_neg (z : Int32) : absI (-z) = absI z := by
  have h1 := z.toInt_lt
  have h2 := z.le_toInt
  by_cases hm : z.toInt = -2 ^ 31
  · have e : -z = z := Int32.toInt.inj (by rw [Int32.toInt_neg, hm]; decide)
    rw [e]
  · have en : (-z).toInt = -z.toInt := by
      rw [Int32.toInt_neg, Int.bmod_eq_of_le (by omega) (by omega)]
    have z0 : (0 : Int32).toInt = 0 := by decide
    unfold absI
    by_cases a : 0 ≤ z
    · have a' := Int32.le_iff_toInt_le.mp a
      by_cases b : 0 ≤ -z
      · have b' := Int32.le_iff_toInt_le.mp b
        rw [if_pos a, if_pos b]
        refine Int32.toInt.inj ?_
        omega
      · rw [if_pos a, if_neg b]
        simp
    · have a' : ¬ (0 : Int32).toInt ≤ z.toInt := fun q => a (Int32.le_iff_toInt_le.mpr q)
      have b : 0 ≤ -z := Int32.le_iff_toInt_le.mpr (by omega)
      rw [if_neg a, if_pos b]
      simp
theorem absI_sub (x y : Int32) : absI (x - y) = absI (y - x) := by
  rw [← absI_neg (y - x)]
  congr 1
  simp
theorem distS_sym (ar : Nat → Nat → Int32) (a b : Nat) : distS ar a b = distS ar b a := by
  unfold distS
  rw [absI_sub (ar 2 a), absI_sub (ar 3 a)]
theorem nearF_at (c : Nat → Bool) (dd : Nat → Int32) : ∀ n, (nearF c dd n).1 = -1 ∨ ∃ j, j < n ∧ (nearF c dd n).1 = nI j ∧ (nearF c dd n).2 = dd j
  | 0 => Or.inl rfl
  | n + 1 => by
    have ih := nearF_at c dd n
    cases h : (c n && (decide ((nearF c dd n).1 = -1) || decide (dd n < (nearF c dd n).2))) with
    | true =>
      rw [nearF_y h]
      exact Or.inr ⟨n, by omega, rfl, rfl⟩
    | false =>
      rw [nearF_n h]
      rcases ih with e | ⟨j, h1, h2⟩
      · exact Or.inl e
      · exact Or.inr ⟨j, by omega, h2⟩
/-- whom the model lets stand in -/
def mayM (R : Nat → Nat → Int32) (B : Int32) (c m k : Nat) : Bool := usV B (R 2 k) (R 7 k) && (decide (R 4 k = R 4 m) && (decide (R 14 (16 * c + k) = 0) && decide (R 26 k = 0)))
def nrM (R : Nat → Nat → Int32) (B : Int32) (c m L : Nat) : Int32 := (nearF (mayM R B c m) (distS R m) L).1
def actN (R : Nat → Nat → Int32) (n : Nat) : Nat := cnt_ (fun k => !decide (R 17 k = 0)) n
