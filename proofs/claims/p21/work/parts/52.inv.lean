/-! the history's entries as numbers (fa_or, fa_or_sum: kit/laws) -/
theorem fa_or (a b : Nat) : nI a ||| nI b = nI (a ||| b) := by
  apply Int32.toBitVec_inj.1
  show BitVec.ofNat 32 a ||| BitVec.ofNat 32 b = BitVec.ofNat 32 (a ||| b)
  apply BitVec.eq_of_getLsbD_eq
  intro i hi
  simp [hi]
theorem fa_or_sum {a k : Nat} (b : Nat) (h : a < 2 ^ k) : nI (2 ^ k * b) ||| nI a = nI (2 ^ k * b + a) := by rw [fa_or, Nat.two_pow_add_eq_or_of_lt h]
theorem ent_is {t c r : Nat} (ht : t < 2 ^ 25) (hc : c < 16) (hr : r < 2) : entF (nI t) (nI c) (nI r) = nI (32 * t + 2 * c + r) := by
  unfold entF
  rw [pk_shlN (nI 5 &&& 31) 5 (by decide) (by omega), pk_shlN (nI 1 &&& 31) 1 (by decide) (by omega)]
  rw [show t * 2 ^ 5 = 2 ^ 5 * t by omega, fa_or_sum (k := 5) t (by omega)]
  rw [show 2 ^ 5 * t + c * 2 ^ 1 = 2 ^ 1 * (16 * t + c) by omega, fa_or_sum (k := 1) _ (by omega)]
  congr 1
  omega
theorem ent_tick {n : Nat} (h : n < 2 ^ 31) : eTick (nI n) = nI (n / 32) := by
  unfold eTick
  rw [pk_shrN h (nI 5 &&& 31) 5 (by decide)]
theorem ent_cue {n : Nat} (h : n < 2 ^ 31) : eCue (nI n) = nI (n / 2 % 16) := by
  unfold eCue
  rw [pk_shrN h (nI 1 &&& 31) 1 (by decide), pk_andN (by omega) 4 (by decide)]
theorem ent_rel {n : Nat} (h : n < 2 ^ 31) : eRel (nI n) = decide (n % 2 = 1) := by
  unfold eRel
  rw [pk_andN (by omega) 1 (by decide)]
  have : (nI (n % 2 ^ 1) = 0) ↔ n % 2 = 0 := by
    rw [show (0 : Int32) = nI 0 from rfl, nI_eq (by omega) (by decide)]
  rw [Bool.eq_iff_iff]
  simp only [Bool.not_eq_true', decide_eq_false_iff_not, decide_eq_true_iff, this]
  omega
/-- an entry of a tick t at most, of a cue below C -/
def hEn (t C : Nat) (e : Int32) : Prop := ∃ t' c r, t' ≤ t ∧ c < C ∧ r < 2 ∧ e = nI (32 * t' + 2 * c + r)
theorem hEn.facts {t C : Nat} {e : Int32} (h : hEn t C e) (hC : C ≤ 12) (ht : t < 2 ^ 25) : eC e < C ∧ eCue e = nI (eC e) ∧ eTick e = nI (eT e) ∧ eT e ≤ t := by
  obtain ⟨t', c, r, h1, h2, h3, rfl⟩ := h
  unfold eC eT
  rw [ent_cue (by omega), ent_tick (by omega), nI_clamp (by omega), nI_clamp (by omega)]
  exact ⟨by omega, rfl, rfl, by omega⟩
theorem hEn.up {t t2 C C2 : Nat} {e : Int32} (h : hEn t C e) (ht : t ≤ t2) (hC : C ≤ C2) : hEn t2 C2 e := by
  obtain ⟨t', c, r, h1, h2, h3, h4⟩ := h
  exact ⟨t', c, r, by omega, by omega, h3, h4⟩
theorem entB_is {t c : Nat} (ht : t < 2 ^ 25) (hc : c < 16) : entB t c = nI (32 * t + 2 * c) := ent_is (r := 0) ht hc (by decide)
theorem entB_en {t t2 c C : Nat} (ht : t ≤ t2) (ht2 : t < 2 ^ 25) (hc : c < C) (hC : C ≤ 12) : hEn t2 C (entB t c) := ⟨t, c, 0, ht, hc, by decide, entB_is ht2 (by omega)⟩
theorem entB_facts {t c : Nat} (ht : t < 2 ^ 25) (hc : c < 12) : eC (entB t c) = c ∧ eT (entB t c) = t ∧ eRel (entB t c) = false := by
  rw [entB_is ht (by omega)]
  unfold eC eT
  rw [ent_cue (by omega), ent_tick (by omega), ent_rel (by omega), nI_clamp (by omega), nI_clamp (by omega)]
  refine ⟨by omega, by omega, ?_⟩
  rw [decide_eq_false_iff_not]
  omega
theorem entR_facts {t c : Nat} (ht : t < 2 ^ 25) (hc : c < 12) : eC (entF (nI t) (nI c) (nI 1)) = c ∧ eT (entF (nI t) (nI c) (nI 1)) = t ∧ eRel (entF (nI t) (nI c) (nI 1)) = true := by
  rw [ent_is ht (by omega) (by decide)]
  unfold eC eT
  rw [ent_cue (by omega), ent_tick (by omega), ent_rel (by omega), nI_clamp (by omega), nI_clamp (by omega)]
  refine ⟨by omega, by omega, ?_⟩
  rw [decide_eq_true_iff]
  omega
theorem entB_inj {t a b : Nat} (ht : t < 2 ^ 25) (ha : a < 12) (hb : b < 12) (h : entB t a = entB t b) : a = b := by
  have := congrArg eC h
  rw [(entB_facts ht ha).1, (entB_facts ht hb).1] at this
  exact this
/-! striking -/
theorem strK_is {e : Int32} {HL : List Int32} : ∀ k, k ≤ HL.length → (∃ j, HL[j]? = some e ∧ strK e HL k = HL.eraseIdx j) ∨ (strK e HL k = HL ∧ ∀ (j : Nat) (x : Int32), j < k → HL[j]? = some x → (∀ (i : Nat) (y : Int32), j ≤ i → i < k → HL[i]? = some y → eTick y = eTick e) → x ≠ e)
  | 0, _ => Or.inr ⟨rfl, fun j x hj => absurd hj (Nat.not_lt_zero j)⟩
  | k + 1, hk => by
    have hx : HL[k]? = some HL[k] := List.getElem?_eq_getElem (by omega)
    rw [strK_s hx]
    by_cases c : eTick HL[k] = eTick e
    · rw [if_pos c]
      by_cases d : HL[k] = e
      · rw [if_pos d]
        exact Or.inl ⟨k, by rw [hx, d], rfl⟩
      · rw [if_neg d]
        rcases strK_is (e := e) (HL := HL) k (by omega) with h | ⟨h1, h2⟩
        · exact Or.inl h
        · refine Or.inr ⟨h1, fun j x hj hjx hall => ?_⟩
          rcases Nat.lt_or_ge j k with z | z
          · exact h2 j x z hjx (fun i y a b => hall i y a (by omega))
          · obtain rfl : j = k := by omega
            rw [hx] at hjx
            cases hjx
            exact d
    · rw [if_neg c]
      exact Or.inr ⟨rfl, fun j x hj hjx hall => absurd (hall k _ (by omega) (by omega) hx) c⟩
theorem strF_is (e : Int32) (HL : List Int32) : (∃ j, HL[j]? = some e ∧ strF e HL = HL.eraseIdx j) ∨ (strF e HL = HL ∧ ∀ (j : Nat) (x : Int32), HL[j]? = some x → (∀ (i : Nat) (y : Int32), j ≤ i → HL[i]? = some y → eTick y = eTick e) → x ≠ e) := by
  rcases strK_is (e := e) (HL := HL) HL.length (Nat.le_refl _) with h | ⟨h1, h2⟩
  · exact Or.inl h
  · exact Or.inr ⟨h1, fun j x hx hall => h2 j x (List.getElem?_eq_some_iff.mp hx).1 hx (fun i y a _ => hall i y a)⟩
theorem strF_len (e : Int32) (HL : List Int32) : (strF e HL).length ≤ HL.length := by
  rcases strF_is e HL with ⟨j, h1, h2⟩ | ⟨h1, _⟩
  · rw [h2, List.length_eraseIdx]
    split <;> omega
  · rw [h1]
    exact Nat.le_refl _
theorem strF_mem {e x : Int32} {HL : List Int32} (h : x ∈ strF e HL) : x ∈ HL := by
  rcases strF_is e HL with ⟨j, h1, h2⟩ | ⟨h1, _⟩
  · rw [h2] at h
    exact List.mem_of_mem_eraseIdx h
  · rw [h1] at h
    exact h
