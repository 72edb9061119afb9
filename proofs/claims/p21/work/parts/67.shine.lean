/-! what the rows of an arrangement say -/
theorem i32_lt_trans {a b c : Int32} (h1 : a < b) (h2 : b < c) : a < c := by
  rw [Int32.lt_iff_toInt_lt] at *
  omega
theorem i32_le_of {a b : Int32} (h : ¬ b < a) : a < b ∨ a = b := by
  rw [Int32.lt_iff_toInt_lt] at *
  rcases (show a.toInt < b.toInt ∨ a.toInt = b.toInt by omega) with z | z
  · exact Or.inl z
  · exact Or.inr (Int32.toInt.inj z)
theorem nI_nm {b : Nat} (h : b < 2 ^ 31) : ¬ nI b = -1 := fun z => by
  have z1 := congrArg Int32.toInt z
  rw [nI_toInt h] at z1
  have : (-1 : Int32).toInt = -1 := by decide
  omega
/-- the nearest: none, or a best one -/
theorem nearF_best (c : Nat → Bool) (dd : Nat → Int32) : ∀ n, n ≤ 16 → ((nearF c dd n).1 = -1 ∧ ∀ j, j < n → c j = false) ∨ ∃ b, b < n ∧ (nearF c dd n).1 = nI b ∧ (nearF c dd n).2 = dd b ∧ c b = true ∧ ∀ j, j < n → c j = true → dd b < dd j ∨ (dd b = dd j ∧ b ≤ j)
  | 0, _ => Or.inl ⟨rfl, fun j hj => absurd hj (Nat.not_lt_zero j)⟩
  | n + 1, hn => by
    have ih := nearF_best c dd n (by omega)
    cases hc : c n with
    | false =>
      rw [nearF_n (by rw [hc]; rfl)]
      rcases ih with ⟨h1, h2⟩ | ⟨b, h1, h2, h3, h4, h5⟩
      · refine Or.inl ⟨h1, fun j hj => ?_⟩
        rcases Nat.lt_or_ge j n with z | z
        · exact h2 j z
        · obtain rfl : j = n := by omega
          exact hc
      · refine Or.inr ⟨b, by omega, h2, h3, h4, fun j hj hcj => ?_⟩
        rcases Nat.lt_or_ge j n with z | z
        · exact h5 j z hcj
        · obtain rfl : j = n := by omega
          rw [hc] at hcj
          cases hcj
    | true =>
      rcases ih with ⟨h1, h2⟩ | ⟨b, h1, h2, h3, h4, h5⟩
      · rw [nearF_y (by rw [hc, decide_eq_true h1]; rfl)]
        refine Or.inr ⟨n, by omega, rfl, rfl, hc, fun j hj hcj => ?_⟩
        rcases Nat.lt_or_ge j n with z | z
        · rw [h2 j z] at hcj
          cases hcj
        · obtain rfl : j = n := by omega
          exact Or.inr ⟨rfl, Nat.le_refl _⟩
      · by_cases hd : dd n < (nearF c dd n).2
        · rw [nearF_y (by rw [hc, decide_eq_true hd]; simp)]
          refine Or.inr ⟨n, by omega, rfl, rfl, hc, fun j hj hcj => ?_⟩
          rw [h3] at hd
          rcases Nat.lt_or_ge j n with z | z
          · rcases h5 j z hcj with w | ⟨w, _⟩
            · exact Or.inl (i32_lt_trans hd w)
            · rw [w] at hd
              exact Or.inl hd
          · obtain rfl : j = n := by omega
            exact Or.inr ⟨rfl, Nat.le_refl _⟩
        · rw [nearF_n (by rw [hc, decide_eq_false hd, h2, decide_eq_false (nI_nm (by omega))]; rfl)]
          rw [h3] at hd
          refine Or.inr ⟨b, by omega, h2, h3, h4, fun j hj hcj => ?_⟩
          rcases Nat.lt_or_ge j n with z | z
          · exact h5 j z hcj
          · obtain rfl : j = n := by omega
            rcases i32_le_of hd with w | w
            · exact Or.inl w
            · exact Or.inr ⟨w, by omega⟩
section AR
variable {L : Nat} {ar : Nat → Nat → Int32} {B : Int32} {told : Nat → Int32}
abbrev usA (ar : Nat → Nat → Int32) (B : Int32) (k : Nat) : Bool := usV B (ar 2 k) (ar 7 k)
theorem arrF_case {n : Nat} (hn : n < 16) : (arrF L ar B told (n + 1) = arrF L ar B told n ∧ (¬ n < L ∨ told n = 0 ∨ (usA ar B n = false ∧ nearS L ar B told (arrF L ar B told n).2 n = -1))) ∨ ∃ j, j < 16 ∧ n < L ∧ told n ≠ 0 ∧ ((usA ar B n = true ∧ j = n) ∨ (usA ar B n = false ∧ nearS L ar B told (arrF L ar B told n).2 n = nI j ∧ candS L ar B told (arrF L ar B told n).2 n j = true)) ∧ arrF L ar B told (n + 1) = (upd (arrF L ar B told n).1 n (nI j), upd (arrF L ar B told n).2 j (told n)) := by
  by_cases h1 : n < L
  · by_cases h2 : told n = 0
    · exact Or.inl ⟨arrF_no (Or.inr h2), Or.inr (Or.inl h2)⟩
    · cases hu : usA ar B n with
      | true =>
        refine Or.inr ⟨n, hn, h1, h2, Or.inl ⟨rfl, rfl⟩, ?_⟩
        have e := arrF_put (s := nI n) h1 h2 (if_pos hu) (nI_pos' (by omega)) ((nI_ltI (by omega) (by decide)).mpr hn)
        rw [e, nI_clamp (by omega)]
      | false =>
        rcases nearF_best (candS L ar B told (arrF L ar B told n).2 n) (distS ar n) 16 (Nat.le_refl _) with ⟨k1, _⟩ | ⟨b, k1, k2, _, k4, _⟩
        · have k1' : nearS L ar B told (arrF L ar B told n).2 n = -1 := k1
          refine Or.inl ⟨arrF_out (s := -1) ?_ (by decide), Or.inr (Or.inr ⟨rfl, k1'⟩)⟩
          rw [if_neg (by rw [show usV B (ar 2 n) (ar 7 n) = false from hu]; decide)]
          exact k1'
        · have k2' : nearS L ar B told (arrF L ar B told n).2 n = nI b := k2
          refine Or.inr ⟨b, k1, h1, h2, Or.inr ⟨rfl, k2', k4⟩, ?_⟩
          have e := arrF_put (bars := B) (ar := ar) (s := nI b) h1 h2 (by rw [if_neg (by rw [show usV B (ar 2 n) (ar 7 n) = false from hu]; decide)]; exact k2') (nI_pos' (by omega)) ((nI_ltI (by omega) (by decide)).mpr k1)
          rw [e, nI_clamp (by omega)]
  · exact Or.inl ⟨arrF_no (Or.inl h1), Or.inl h1⟩
theorem candS_t {lvl : Nat → Int32} {m k : Nat} : candS L ar B told lvl m k = true ↔ k < L ∧ usA ar B k = true ∧ ar 4 k = ar 4 m ∧ told k = 0 ∧ lvl k = 0 := by
  unfold candS
  simp only [Bool.and_eq_true, decide_eq_true_iff]
theorem arrF_inv : ∀ n, n ≤ 16 → (∀ k, n ≤ k → (arrF L ar B told n).1 k = -1) ∧ (∀ k, k < n → (arrF L ar B told n).1 k = -1 ∨ ∃ j, j < 16 ∧ (arrF L ar B told n).1 k = nI j ∧ (arrF L ar B told n).2 j = told k ∧ told k ≠ 0 ∧ k < L ∧ ((usA ar B k = true ∧ j = k) ∨ (usA ar B k = false ∧ told j = 0 ∧ j < L))) ∧ (∀ j, (arrF L ar B told n).2 j = 0 ∨ ∃ k, k < n ∧ (arrF L ar B told n).1 k = nI j) ∧ ∀ k k' j, j < 16 → (arrF L ar B told n).1 k = nI j → (arrF L ar B told n).1 k' = nI j → k = k'
  | 0, _ => ⟨fun _ _ => rfl, fun k hk => absurd hk (Nat.not_lt_zero k), fun _ => Or.inl rfl, fun k k' j hj h => absurd h.symm (nI_nm (by omega))⟩
  | n + 1, hn => by
    obtain ⟨a, b, c, d⟩ := arrF_inv n (by omega)
    rcases arrF_case (L := L) (ar := ar) (B := B) (told := told) (n := n) (by omega) with ⟨e, _⟩ | ⟨j, j16, hnL, htn, hcase, e⟩
    · rw [e]
      refine ⟨fun k hk => a k (by omega), fun k hk => ?_, fun j => ?_, d⟩
      · rcases Nat.lt_or_ge k n with z | z
        · exact b k z
        · exact Or.inl (a k z)
      · rcases c j with z | ⟨k, z1, z2⟩
        · exact Or.inl z
        · exact Or.inr ⟨k, by omega, z2⟩
    · have key : ∀ k, (arrF L ar B told n).1 k = nI j → False := fun k hk => by
        rcases Nat.lt_or_ge k n with z | z
        · rcases b k z with y | ⟨j', q1, q2, q3, q4, q5, q6⟩
          · rw [y] at hk
            exact nI_nm (by omega) hk.symm
          · have ej : j' = j := x_nIinj (q2.symm.trans hk) (by omega) (by omega)
            subst ej
            rcases hcase with ⟨h1, h2⟩ | ⟨h1, h2, h3⟩
            · rcases q6 with ⟨_, w⟩ | ⟨_, w, _⟩
              · omega
              · rw [h2] at w
                exact htn w
            · have := (candS_t.mp h3).2.2.2.2
              rw [q3] at this
              exact q4 this
        · rw [a k z] at hk
          exact nI_nm (by omega) hk.symm
      rw [e]
      refine ⟨fun k hk => ?_, fun k hk => ?_, fun j' => ?_, fun k k' j' hj' h1 h2 => ?_⟩
      · dsimp only
        rw [upd_ne (by omega)]
        exact a k (by omega)
      · dsimp only
        by_cases z : k = n
        · subst z
          rw [upd_at]
          refine Or.inr ⟨j, j16, rfl, upd_at _ _ _, htn, hnL, ?_⟩
          rcases hcase with ⟨h1, h2⟩ | ⟨h1, h2, h3⟩
          · exact Or.inl ⟨h1, h2⟩
          · exact Or.inr ⟨h1, (candS_t.mp h3).2.2.2.1, (candS_t.mp h3).1⟩
        · rw [upd_ne z]
          rcases b k (by omega) with y | ⟨j', q1, q2, q3, q4⟩
          · exact Or.inl y
          · refine Or.inr ⟨j', q1, q2, ?_, q4⟩
            rw [upd_ne (fun w => key k (by rw [← w]; exact q2))]
            exact q3
      · dsimp only
        by_cases z : j' = j
        · subst z
          exact Or.inr ⟨n, by omega, upd_at _ _ _⟩
        · rw [upd_ne z]
          rcases c j' with y | ⟨k, y1, y2⟩
          · exact Or.inl y
          · refine Or.inr ⟨k, by omega, ?_⟩
            rw [upd_ne (by omega)]
            exact y2
      · dsimp only at h1 h2
        by_cases z : k = n
        · by_cases z' : k' = n
          · omega
          · subst z
            rw [upd_at] at h1
            rw [upd_ne z'] at h2
            have : j = j' := x_nIinj h1 (by omega) (by omega)
            subst this
            exact absurd h2 (key k')
        · rw [upd_ne z] at h1
          by_cases z' : k' = n
          · subst z'
            rw [upd_at] at h2
            have : j = j' := x_nIinj h2 (by omega) (by omega)
            subst this
            exact absurd h1 (key k)
          · rw [upd_ne z'] at h2
            exact d k k' j' hj' h1 h2
/-- a row once told stays -/
theorem arrF_fix {k : Nat} : ∀ n, k < n → n ≤ 16 → (arrF L ar B told n).1 k = (arrF L ar B told (k + 1)).1 k
  | 0, h, _ => absurd h (Nat.not_lt_zero k)
  | n + 1, h, hn => by
    rcases Nat.lt_or_ge k n with z | z
    · rw [← arrF_fix n z (by omega)]
      rcases arrF_case (L := L) (ar := ar) (B := B) (told := told) (n := n) (by omega) with ⟨e, _⟩ | ⟨j, _, _, _, _, e⟩
      · rw [e]
      · rw [e]
        exact upd_ne (by omega)
    · obtain rfl : k = n := by omega
      rfl
theorem shi_none {k : Nat} (hk : k < 16) (h : told k = 0) : (arrF L ar B told 16).1 k = -1 := by
  rw [arrF_fix 16 hk (Nat.le_refl _), arrF_no (Or.inr h)]
  exact (arrF_inv k (by omega)).1 k (Nat.le_refl _)
theorem shi_self {k : Nat} (hk : k < 16) (hL : k < L) (h : told k ≠ 0) (hu : usA ar B k = true) : (arrF L ar B told 16).1 k = nI k := by
  rw [arrF_fix 16 hk (Nat.le_refl _)]
  rcases arrF_case (L := L) (ar := ar) (B := B) (told := told) hk with ⟨e, z | z | ⟨z, _⟩⟩ | ⟨j, j1, j2, j3, j4, e⟩
  · exact absurd hL z
  · exact absurd z h
  · rw [hu] at z; cases z
  · rw [e]
    rcases j4 with ⟨_, y⟩ | ⟨y, _⟩
    · rw [y]; exact upd_at _ _ _
    · rw [hu] at y; cases y
theorem shi_near {k : Nat} (hk : k < 16) (hL : k < L) (h : told k ≠ 0) (hu : usA ar B k = false) : (arrF L ar B told 16).1 k = nearS L ar B told (arrF L ar B told k).2 k := by
  rw [arrF_fix 16 hk (Nat.le_refl _)]
  rcases arrF_case (L := L) (ar := ar) (B := B) (told := told) hk with ⟨e, z | z | ⟨_, z⟩⟩ | ⟨j, j1, j2, j3, j4, e⟩
  · exact absurd hL z
  · exact absurd z h
  · rw [e, z]
    exact (arrF_inv k (by omega)).1 k (Nat.le_refl _)
  · rw [e]
    rcases j4 with ⟨y, _⟩ | ⟨_, y, _⟩
    · rw [hu] at y; cases y
    · rw [y]; exact upd_at _ _ _
/-- taken: by the lamps ahead -/
theorem lev_taken {k j : Nat} (hk : k ≤ 16) (hj : j < 16) : (arrF L ar B told k).2 j ≠ 0 ↔ ∃ k', k' < k ∧ (arrF L ar B told 16).1 k' = nI j := by
  obtain ⟨a, b, c, d⟩ := arrF_inv (L := L) (ar := ar) (B := B) (told := told) k hk
  refine ⟨fun h => ?_, fun ⟨k', h1, h2⟩ => ?_⟩
  · rcases c j with z | ⟨k', z1, z2⟩
    · exact absurd z h
    · refine ⟨k', z1, ?_⟩
      rw [arrF_fix 16 (by omega) (Nat.le_refl _), ← arrF_fix k z1 hk]
      exact z2
  · rw [arrF_fix 16 (by omega) (Nat.le_refl _), ← arrF_fix k h1 hk] at h2
    rcases b k' h1 with z | ⟨j', q1, q2, q3, q4, _⟩
    · rw [z] at h2
      exact absurd h2.symm (nI_nm (by omega))
    · have : j' = j := x_nIinj (q2.symm.trans h2) (by omega) (by omega)
      subst this
      rw [q3]
      exact q4
/-- a lamp's level, summed over who shines with it -/
def lbF (sf told : Nat → Int32) (i : Nat) : Nat → Int32
  | 0 => nI 0
  | k + 1 => lbF sf told i k + (if sf k = nI i then told k else nI 0)
theorem lbF_s {sf : Nat → Int32} {i k : Nat} : lbF sf told i (k + 1) = lbF sf told i k + (if sf k = nI i then told k else nI 0) := rfl
theorem lbF_lev {i : Nat} (hL : L ≤ 16) (hi : i < 16) : lbF (arrF L ar B told 16).1 told i L = (arrF L ar B told 16).2 i := by
  obtain ⟨a, b, c, d⟩ := arrF_inv (L := L) (ar := ar) (B := B) (told := told) 16 (Nat.le_refl _)
  generalize hsf : (arrF L ar B told 16).1 = sf at *
  have key : ∀ k, (lbF sf told i k = nI 0 ∧ ∀ k', k' < k → sf k' ≠ nI i) ∨ ∃ k', k' < k ∧ sf k' = nI i ∧ lbF sf told i k = told k' := by
    intro k
    induction k with
    | zero => exact Or.inl ⟨rfl, fun k' h => absurd h (Nat.not_lt_zero k')⟩
    | succ k ih =>
      rw [lbF_s]
      by_cases z : sf k = nI i
      · rw [if_pos z]
        rcases ih with ⟨h1, h2⟩ | ⟨k', h1, h2, h3⟩
        · refine Or.inr ⟨k, by omega, z, ?_⟩
          rw [h1]
          exact Int32.zero_add _
        · have := d k k' i hi z h2
          omega
      · rw [if_neg z, show lbF sf told i k + nI 0 = lbF sf told i k from Int32.add_zero _]
        rcases ih with ⟨h1, h2⟩ | ⟨k', h1, h2, h3⟩
        · refine Or.inl ⟨h1, fun k' h => ?_⟩
          rcases Nat.lt_or_ge k' k with y | y
          · exact h2 k' y
          · obtain rfl : k' = k := by omega
            exact z
        · exact Or.inr ⟨k', by omega, h2, h3⟩
  rcases key L with ⟨h1, h2⟩ | ⟨k', h1, h2, h3⟩
  · rw [h1]
    rcases c i with z | ⟨k, z1, z2⟩
    · exact z.symm
    · rcases b k z1 with y | ⟨j, q1, q2, q3, q4, q5, _⟩
      · rw [y] at z2
        exact absurd z2.symm (nI_nm (by omega))
      · exact absurd z2 (h2 k q5)
  · rw [h3]
    rcases b k' (by omega) with y | ⟨j, q1, q2, q3, _⟩
    · rw [y] at h2
      exact absurd h2.symm (nI_nm (by omega))
    · have : j = i := x_nIinj (q2.symm.trans h2) (by omega) (by omega)
      subst this
      exact q3.symm
end AR
