/-! the lamps taken, bit by bit -/
def TI (S : PS) (c T i : Nat) : Prop := T < 2 ^ 16 ∧ ∀ j, j < 10 → toldF (s_ar S) c j = 0 → (T.testBit j = true ↔ ∃ k', k' < i ∧ shiP S c k' = nI j)
theorem TI_0 (S : PS) (c : Nat) : TI S c 0 0 := ⟨by decide, fun j _ _ => by simp⟩
theorem TI_skip {S : PS} {c T i : Nat} (h : TI S c T i) (hs : ∀ j, j < 10 → toldF (s_ar S) c j = 0 → shiP S c i ≠ nI j) : TI S c T (i + 1) := by
  refine ⟨h.1, fun j hj ht => ?_⟩
  rw [h.2 j hj ht]
  refine ⟨fun ⟨k', h1, h2⟩ => ⟨k', by omega, h2⟩, fun ⟨k', h1, h2⟩ => ?_⟩
  rcases Nat.lt_or_ge k' i with z | z
  · exact ⟨k', z, h2⟩
  · obtain rfl : k' = i := by omega
    exact absurd h2 (hs j hj ht)
theorem TI_put {S : PS} {c T i b : Nat} (h : TI S c T i) (hb : b < 10) (hs : shiP S c i = nI b) : TI S c (T ||| 2 ^ b) (i + 1) := by
  have hb2 : 2 ^ b < 2 ^ 16 := Nat.pow_lt_pow_right (by decide) (by omega)
  refine ⟨Nat.or_lt_two_pow h.1 hb2, fun j hj ht => ?_⟩
  rw [Nat.testBit_or, Nat.testBit_two_pow, Bool.or_eq_true, h.2 j hj ht, decide_eq_true_iff]
  refine ⟨fun z => ?_, fun ⟨k', h1, h2⟩ => ?_⟩
  · rcases z with ⟨k', h1, h2⟩ | z
    · exact ⟨k', by omega, h2⟩
    · subst z
      exact ⟨i, by omega, hs⟩
  · rcases Nat.lt_or_ge k' i with z | z
    · exact Or.inl ⟨k', z, h2⟩
    · obtain rfl : k' = i := by omega
      rw [hs] at h2
      exact Or.inr (x_nIinj h2 (by omega) (by omega))
theorem sh16 : ∀ j, j < 16 → ((nI j &&& 31 : Int32).toBitVec.smod 32).toNat = j := by decide
theorem tb_is {T j : Nat} (hT : T < 2 ^ 16) (hj : j < 10) : (nI T >>> (nI j &&& 31)) &&& nI 1 = nI (T / 2 ^ j % 2) := by
  rw [pk_shrN (by omega) (nI j &&& 31) j (sh16 j (by omega)), pk_andN (by have := Nat.div_le_self T (2 ^ j); omega) 1 (by decide)]
theorem tb_bit {T j : Nat} : T / 2 ^ j % 2 = 1 ↔ T.testBit j = true := by
  rw [Nat.testBit_eq_decide_div_mod_eq, decide_eq_true_iff]
theorem or_put {T b : Nat} (hb : b < 10) : nI T ||| (nI 1 <<< (nI b &&& 31)) = nI (T ||| 2 ^ b) := by
  have hb2 : 2 ^ b < 2 ^ 16 := Nat.pow_lt_pow_right (by decide) (by omega)
  rw [pk_shlN (nI b &&& 31) b (sh16 b (by omega)) (by omega), Nat.one_mul, fa_or]
theorem or_none (T : Nat) : nI T ||| nI 0 = nI T := by
  rw [fa_or, Nat.or_zero]
/-- a told level: none or more -/
theorem told_num {S : PS} {C c k : Nat} (ht : toI (s_ar S) C) (hc : c < C) (hk : k < 16) : ∃ v, v ≤ 100 ∧ toldF (s_ar S) c k = nI v := by
  obtain ⟨v, h1, h2⟩ := ht c k hc hk
  exact ⟨v, h1, by unfold toldF; rw [if_pos hk]; exact h2⟩
theorem told_le0 {x : Int32} {v : Nat} (hv : v ≤ 100) (e : x = nI v) : x ≤ 0 ↔ x = 0 := by
  subst e
  refine ⟨fun z => ?_, fun z => by rw [z]; exact i32_le_rfl _⟩
  have := (nI_leI (a := v) (b := 0) (by omega) (by decide)).mp z
  have : v = 0 := by omega
  rw [this]
  rfl
/-- a stand-in: none that could, or a best one -/
theorem near_is_best {S : PS} {c i T : Nat} (hL : s_L S = 10) (hV : lV S) (hi : i < 10) (hT : TI S c T i) (ht : toldF (s_ar S) c i ≠ 0) (hu : usA (s_ar S) (s_B S) i = false) : (shiP S c i = -1 ∧ ∀ j, j < 10 → usA (s_ar S) (s_B S) j = true → s_ar S 4 j = s_ar S 4 i → toldF (s_ar S) c j = 0 → T.testBit j = false → False) ∨ ∃ b, b < 10 ∧ shiP S c i = nI b ∧ usA (s_ar S) (s_B S) b = true ∧ s_ar S 4 b = s_ar S 4 i ∧ toldF (s_ar S) c b = 0 ∧ T.testBit b = false ∧ ∀ j, j < 10 → usA (s_ar S) (s_B S) j = true → s_ar S 4 j = s_ar S 4 i → toldF (s_ar S) c j = 0 → T.testBit j = false → dN S b i < dN S j i ∨ (dN S b i = dN S j i ∧ b ≤ j) := by
  have e := shi_near (L := s_L S) (ar := s_ar S) (B := s_B S) (told := toldF (s_ar S) c) (k := i) (by omega) (by omega) ht hu
  have e' : shiP S c i = (nearF (candS (s_L S) (s_ar S) (s_B S) (toldF (s_ar S) c) (arrF (s_L S) (s_ar S) (s_B S) (toldF (s_ar S) c) i).2 i) (distS (s_ar S) i) 16).1 := e
  have hbit : ∀ j, j < 10 → toldF (s_ar S) c j = 0 → ((arrF (s_L S) (s_ar S) (s_B S) (toldF (s_ar S) c) i).2 j = 0 ↔ T.testBit j = false) := fun j hj h0 => by
    have k1 := lev_taken (L := s_L S) (ar := s_ar S) (B := s_B S) (told := toldF (s_ar S) c) (k := i) (j := j) (by omega) (by omega)
    have k2 := hT.2 j hj h0
    have k3 : (arrF (s_L S) (s_ar S) (s_B S) (toldF (s_ar S) c) i).2 j ≠ 0 ↔ T.testBit j = true := k1.trans k2.symm
    cases z : T.testBit j with
    | false =>
      rw [z] at k3
      exact ⟨fun _ => rfl, fun _ => Decidable.not_not.mp (fun y => by have := k3.mp y; cases this)⟩
    | true =>
      rw [z] at k3
      exact ⟨fun y => absurd y (k3.mpr rfl), fun y => by cases y⟩
  have hcd : ∀ j, j < 10 → usA (s_ar S) (s_B S) j = true → s_ar S 4 j = s_ar S 4 i → toldF (s_ar S) c j = 0 → T.testBit j = false → candS (s_L S) (s_ar S) (s_B S) (toldF (s_ar S) c) (arrF (s_L S) (s_ar S) (s_B S) (toldF (s_ar S) c) i).2 i j = true := fun j hj h1 h2 h3 h4 => candS_t.mpr ⟨by omega, h1, h2, h3, (hbit j hj h3).mpr h4⟩
  rcases nearF_best (candS (s_L S) (s_ar S) (s_B S) (toldF (s_ar S) c) (arrF (s_L S) (s_ar S) (s_B S) (toldF (s_ar S) c) i).2 i) (distS (s_ar S) i) 16 (Nat.le_refl _) with ⟨h1, h2⟩ | ⟨b, h1, h2, _, h4, h5⟩
  · refine Or.inl ⟨e'.trans h1, fun j hj a1 a2 a3 a4 => ?_⟩
    have := hcd j hj a1 a2 a3 a4
    rw [h2 j (by omega)] at this
    cases this
  · obtain ⟨q1, q2, q3, q4, q5⟩ := candS_t.mp h4
    have hb : b < 10 := by omega
    refine Or.inr ⟨b, hb, e'.trans h2, q2, q3, q4, (hbit b hb q4).mp q5, fun j hj a1 a2 a3 a4 => ?_⟩
    have k := h5 j (by omega) (hcd j hj a1 a2 a3 a4)
    rw [dist_is hV hi hb, dist_is hV hi hj, dN_sym S i b, dN_sym S i j] at k
    have d1 := dN_b hV hb hi
    have d2 := dN_b hV hj hi
    rcases k with z | ⟨z1, z2⟩
    · exact Or.inl (x_nIlt z (by omega) (by omega))
    · exact Or.inr ⟨x_nIinj z1 (by omega) (by omega), z2⟩
