/-! the law's rows when the book's state changes -/
def lwA (G : XG) (ca ma la pa ta : Nat) (S : PS) (hA : HM) : Prop := ∃ cf mf lf pf tf : Nat → Int32, (hA ca = some (rowI G 5 cf) ∧ lRc S cf) ∧ (hA ma = some (rowI G 60 mf) ∧ lRm S mf) ∧ (hA la = some (rowI G 60 lf) ∧ lRl S lf) ∧ (hA pa = some (rowI G 3 pf) ∧ lRp S pf) ∧ hA ta = some (rowI G 18 tf) ∧ lRt S tf
theorem lRc.of {S S' : PS} {cf : Nat → Int32} (h : lRc S cf) (e1 : s_B S' = s_B S) (e2 : s_t S' = s_t S) (e3 : s_b S' = s_b S) : lRc S' cf := by
  unfold lRc
  rw [e1, e2, e3]
  exact h
theorem lRm.of {S S' : PS} {mf : Nat → Int32} (h : lRm S mf) (e : ∀ k, k ∈ [2, 3, 4, 5, 6, 7] → s_ar S' k = s_ar S k) : lRm S' mf := by
  unfold lRm
  rw [e 2 (by decide), e 3 (by decide), e 4 (by decide), e 5 (by decide), e 6 (by decide), e 7 (by decide)]
  exact h
theorem lRl.of {S S' : PS} {lf : Nat → Int32} (h : lRl S lf) (e : s_ar S' 14 = s_ar S 14) : lRl S' lf := by
  unfold lRl
  rw [e]
  exact h
theorem lRp.of {S S' : PS} {pf : Nat → Int32} (h : lRp S pf) (e : s_ar S' 9 = s_ar S 9) : lRp S' pf := by
  unfold lRp
  rw [e]
  exact h
theorem lRt.of {S S' : PS} {tf : Nat → Int32} (h : lRt S tf) (e : ∀ k, k ∈ [11, 12, 13] → s_ar S' k = s_ar S k) : lRt S' tf := by
  unfold lRt
  rw [e 11 (by decide), e 12 (by decide), e 13 (by decide)]
  exact h
theorem lV.of {S S' : PS} (h : lV S) (e : ∀ k, k ∈ [2, 3, 6, 7] → s_ar S' k = s_ar S k) : lV S' := by
  unfold lV
  rw [e 2 (by decide), e 3 (by decide), e 6 (by decide), e 7 (by decide)]
  exact h
theorem set2_no {ar : Nat → Nat → Int32} {r i : Nat} {x : Int32} (l : List Nat) (hl : r ∉ l) : ∀ k, k ∈ l → set2 ar r i x k = ar k := fun k hk => set2_ne (fun z => hl (by rw [← z]; exact hk))
theorem set2_no2 {ar : Nat → Nat → Int32} {r r' i i' : Nat} {x x' : Int32} (l : List Nat) (hl : r ∉ l) (hl' : r' ∉ l) : ∀ k, k ∈ l → set2 (set2 ar r i x) r' i' x' k = ar k := fun k hk => (set2_no l hl' k hk).trans (set2_no l hl k hk)
theorem die_rows {S : PS} {mf : Nat → Int32} {j : Nat} (hj : j < 10) (h : lRm S mf) (hV : lV S) : lRm (dieP j S) (upd mf (6 * j + 5) (nI 1 - s_ar S 7 j)) ∧ lV (dieP j S) ∧ s_ar (dieP j S) 7 j = nI 1 - s_ar S 7 j ∧ (s_ar S 7 j = 0 ∧ nI 1 - s_ar S 7 j = nI 1 ∨ s_ar S 7 j = 1 ∧ nI 1 - s_ar S 7 j = nI 0) := by
  have e7 : s_ar (dieP j S) 7 = upd (s_ar S 7) j (if s_ar S 7 j = 0 then 1 else 0) := by
    show set2 (s_ar S) 7 _ _ 7 = _
    exact set2_at
  have hd : (if s_ar S 7 j = 0 then (1 : Int32) else 0) = nI 1 - s_ar S 7 j ∧ (s_ar S 7 j = 0 ∧ nI 1 - s_ar S 7 j = nI 1 ∨ s_ar S 7 j = 1 ∧ nI 1 - s_ar S 7 j = nI 0) := by
    rcases (hV j hj).2.2.2 with e | e
    · rw [e]
      exact ⟨by decide, Or.inl ⟨rfl, by decide⟩⟩
    · rw [e]
      exact ⟨by decide, Or.inr ⟨rfl, by decide⟩⟩
  have en : ∀ k, k ∈ [2, 3, 4, 5, 6] → s_ar (dieP j S) k = s_ar S k := set2_no _ (by decide)
  refine ⟨fun k hk => ?_, fun k hk => ?_, by rw [e7, upd_at, hd.1], hd.2⟩
  · obtain ⟨a, b, c, d, e, f⟩ := h k hk
    rw [en 2 (by decide), en 3 (by decide), en 4 (by decide), en 5 (by decide), en 6 (by decide), e7]
    refine ⟨by rw [upd_ne (by omega)]; exact a, by rw [upd_ne (by omega)]; exact b, by rw [upd_ne (by omega)]; exact c, by rw [upd_ne (by omega)]; exact d, by rw [upd_ne (by omega)]; exact e, ?_⟩
    by_cases z : k = j
    · subst z
      rw [upd_at, upd_at, hd.1]
    · rw [upd_ne (by omega), upd_ne z]
      exact f
  · obtain ⟨a, b, c, d⟩ := hV k hk
    rw [en 2 (by decide), en 3 (by decide), en 6 (by decide), e7]
    refine ⟨a, b, c, ?_⟩
    by_cases z : k = j
    · subst z
      rw [upd_at]
      by_cases y : s_ar S 7 k = 0
      · rw [if_pos y]; exact Or.inr rfl
      · rw [if_neg y]; exact Or.inl rfl
    · rw [upd_ne z]
      exact d
theorem cnt_top {p : Nat → Bool} (h : ∀ k, 10 ≤ k → p k = false) : cnt_ p 16 = cnt_ p 10 := by
  have s : ∀ n, 10 ≤ n → cnt_ p (n + 1) = cnt_ p n := fun n hn => by
    conv => lhs; unfold cnt_
    rw [h n hn]
    rfl
  rw [s 15 (by decide), s 14 (by decide), s 13 (by decide), s 12 (by decide), s 11 (by decide), s 10 (by decide)]
theorem power_rows {S : PS} {pf : Nat → Int32} {p X : Nat} (hp : p < 3) (h : lRp S pf) : lRp (powerP (nI p) (nI X) S) (upd pf p (nI X)) := by
  have e9 : s_ar (powerP (nI p) (nI X) S) 9 = upd (s_ar S 9) p (nI X) := by
    show set2 (s_ar S) 9 (nI p).toNatClampNeg (nI X) 9 = _
    rw [set2_at, nI_clamp (by omega)]
  intro j hj
  rw [e9]
  by_cases z : j = p
  · subst z
    rw [upd_at, upd_at]
  · rw [upd_ne z, upd_ne z]
    exact h j hj
theorem level_rows {S : PS} {lf : Nat → Int32} {c i v : Nat} (hi : i < 10) (h : lRl S lf) : lRl (levelP c i (nI v) S) (upd lf (10 * c + i) (nI v)) := by
  have e14 : s_ar (levelP c i (nI v) S) 14 = upd (s_ar S 14) (16 * c + i) (nI v) := by
    show set2 (s_ar S) 14 _ _ 14 = _
    exact set2_at
  intro c' k hc' hk
  rw [e14]
  by_cases z : 10 * c' + k = 10 * c + i
  · rw [z, upd_at, show 16 * c' + k = 16 * c + i by omega, upd_at]
  · rw [upd_ne z, upd_ne (by omega)]
    exact h c' k hc' hk
theorem die_ar {S : PS} {j k : Nat} (h : k ≠ 7) : s_ar (dieP j S) k = s_ar S k := set2_ne h
theorem power_ar {S : PS} {p x : Int32} {k : Nat} (h : k ≠ 9) : s_ar (powerP p x S) k = s_ar S k := set2_ne h
theorem level_ar {S : PS} {c i : Nat} {x : Int32} {k : Nat} (h : k ≠ 14) : s_ar (levelP c i x S) k = s_ar S k := set2_ne h
theorem follow_ar {S : PS} {c : Nat} {o t : Int32} {k : Nat} (h : k ≠ 15) (h' : k ≠ 16) : s_ar (followP c o t S) k = s_ar S k := (set2_ne h').trans (set2_ne h)
theorem die_no {S : PS} {j : Nat} {l : List Nat} (h : 7 ∉ l) : ∀ k, k ∈ l → s_ar (dieP j S) k = s_ar S k := fun k hk => die_ar (fun z => h (by rw [← z]; exact hk))
theorem power_no {S : PS} {p x : Int32} {l : List Nat} (h : 9 ∉ l) : ∀ k, k ∈ l → s_ar (powerP p x S) k = s_ar S k := fun k hk => power_ar (fun z => h (by rw [← z]; exact hk))
theorem level_no {S : PS} {c i : Nat} {x : Int32} {l : List Nat} (h : 14 ∉ l) : ∀ k, k ∈ l → s_ar (levelP c i x S) k = s_ar S k := fun k hk => level_ar (fun z => h (by rw [← z]; exact hk))
theorem follow_no {S : PS} {c : Nat} {o t : Int32} {l : List Nat} (h : 15 ∉ l) (h' : 16 ∉ l) : ∀ k, k ∈ l → s_ar (followP c o t S) k = s_ar S k := fun k hk => follow_ar (fun z => h (by rw [← z]; exact hk)) (fun z => h' (by rw [← z]; exact hk))
