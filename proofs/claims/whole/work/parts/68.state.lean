/-! the model's data over the book's state -/
def mD (S : PS) (gn : Nat) (sc : Nat → Int32) (R : Nat → Nat → Int32) : Prop := sc 0 = nI (s_t S) ∧ sc 1 = nI (s_L S) ∧ sc 8 = s_B S ∧ sc 10 = nI (s_C S) ∧ sc 21 = nI gn ∧ sc 25 = nI (s_b S) ∧ aE (s_ar S) R ∧ gR R (s_C S) gn (s_G S) ∧ ∀ k, s_C S ≤ k → R 17 k = 0
def rowN (R : Nat → Nat → Int32) (off : Nat) (l : List (Nat × Nat)) : Prop := ∀ j x, l[j]? = some x → R 23 (off + j) = nI x.1 ∧ R 24 (off + j) = nI x.2
def mN (S : PS) (sc : Nat → Int32) (R : Nat → Nat → Int32) : Prop := sc 22 = nI (s_N S).length ∧ rowN R 0 (s_N S)
theorem mD.sR {S : PS} {gn : Nat} {sc : Nat → Int32} {R R' : Nat → Nat → Int32} (h : mD S gn sc R) (s : sR R R') : mD S gn sc R' := by
  obtain ⟨h1, h2, h3, h4, h5, h6, h7, h8, h9⟩ := h
  refine ⟨h1, h2, h3, h4, h5, h6, s.aE h7, s.gR h8, ?_⟩
  rw [s 17 (by decide) (by decide) (by decide)]
  exact h9
theorem mD.same {S : PS} {gn : Nat} {sc sc' : Nat → Int32} {R R' : Nat → Nat → Int32} (h : mD S gn sc R) (s : ∀ k, k ≠ 22 → k ≠ 28 → sc' k = sc k) (r : ∀ k, k ≠ 23 → k ≠ 24 → R' k = R k) : mD S gn sc' R' := by
  obtain ⟨h1, h2, h3, h4, h5, h6, h7, h8, h9⟩ := h
  rw [← s _ (by decide) (by decide)] at h1 h2 h3 h4 h5 h6
  refine ⟨h1, h2, h3, h4, h5, h6, fun k hk => ?_, h8.same (r 17 (by decide) (by decide)) (r 18 (by decide) (by decide)) (r 19 (by decide) (by decide)) (r 20 (by decide) (by decide)), ?_⟩
  · rw [r k (fun z => by subst z; revert hk; decide) (fun z => by subst z; revert hk; decide)]
    exact h7 k hk
  · rw [r 17 (by decide) (by decide)]
    exact h9
theorem rowN.same {R R' : Nat → Nat → Int32} {off : Nat} {l : List (Nat × Nat)} (h : rowN R off l) (e23 : ∀ j, j < l.length → R' 23 (off + j) = R 23 (off + j)) (e24 : ∀ j, j < l.length → R' 24 (off + j) = R 24 (off + j)) : rowN R' off l := fun j x hx => by
  have hj := (List.getElem?_eq_some_iff.mp hx).1
  rw [e23 j hj, e24 j hj]
  exact h j x hx
theorem rowN.sR {R R' : Nat → Nat → Int32} {off : Nat} {l : List (Nat × Nat)} (h : rowN R off l) (s : sR R R') : rowN R' off l := h.same (fun j _ => by rw [s 23 (by decide) (by decide) (by decide)]) (fun j _ => by rw [s 24 (by decide) (by decide) (by decide)])
theorem rowN.snoc {R : Nat → Nat → Int32} {off : Nat} {l : List (Nat × Nat)} {x : Nat × Nat} (h : rowN R off l) (hx : R 23 (off + l.length) = nI x.1 ∧ R 24 (off + l.length) = nI x.2) : rowN R off (l ++ [x]) := fun j y hy => by
  rcases Nat.lt_or_ge j l.length with c | c
  · rw [List.getElem?_append_left c] at hy
    exact h j y hy
  · rw [List.getElem?_append_right c] at hy
    have e : j - l.length = 0 := by
      have := (List.getElem?_eq_some_iff.mp hy).1
      simp only [List.length_singleton] at this
      omega
    rw [e] at hy
    have e2 : x = y := by simpa using hy
    rw [← e2, show j = l.length by omega]
    exact hx
theorem rowN.drop {R : Nat → Nat → Int32} {off : Nat} {l : List (Nat × Nat)} (h : rowN R off l) : rowN R (off + 1) (l.drop 1) := fun j x hx => by
  rw [List.getElem?_drop] at hx
  have := h (1 + j) x hx
  rw [show off + 1 + j = off + (1 + j) by omega]
  exact this
theorem i32_clamp {j : Nat} {x : Int32} (h : x = nI j) (hj : j < 2 ^ 31) : nI x.toNatClampNeg = x := by rw [h, nI_clamp hj]
theorem goes_D {S : PS} {gn nn c : Nat} {sc sc' : Nat → Int32} {R R' : Nat → Nat → Int32} (h : mD S gn sc R) (hg : goesI R R' sc sc' c (s_t S) gn nn) (hc : c < s_C S) (hC : s_C S ≤ 12) (hcu : cuI (s_ar S) (s_C S)) : mD (begP c S) (gn + 1) sc' R' ∧ (∃ ap, s_N (begP c S) = s_N S ++ ap ∧ ap.length ≤ 1 ∧ sc' 22 = nI (nn + ap.length) ∧ rowN R' nn ap) ∧ ∀ j, j ≠ nn → R' 23 j = R 23 j ∧ R' 24 j = R 24 j := by
  obtain ⟨h1, h2, h3, h4, h5, h6, h7, h8, h9⟩ := h
  obtain ⟨g1, g2, g3, g4, g5, g6, g7, g8⟩ := hg
  have e15 := h7 15 (by decide)
  have e16 := h7 16 (by decide)
  refine ⟨⟨by rw [g6 _ (by decide) (by decide)]; exact h1, by rw [g6 _ (by decide) (by decide)]; exact h2, by rw [g6 _ (by decide) (by decide)]; exact h3, by rw [g6 _ (by decide) (by decide)]; exact h4, g7, by rw [g6 _ (by decide) (by decide)]; exact h6, fun k hk => ?_, gR_beg h8 g2 g3 g4 g5, fun k hk => ?_⟩, ?_, ?_⟩
  · rw [g1 k (fun z => by subst z; revert hk; decide) (fun z => by subst z; revert hk; decide) (fun z => by subst z; revert hk; decide) (fun z => by subst z; revert hk; decide) (fun z => by subst z; revert hk; decide) (fun z => by subst z; revert hk; decide)]
    exact h7 k hk
  · have hk' : s_C S ≤ k := hk
    rw [g2, upd_ne (by omega)]
    exact h9 k hk'
  · show ∃ ap, nxP (s_ar S) c (s_t S) (s_N S) = s_N S ++ ap ∧ _
    unfold nxP
    rw [e15] at g8
    rcases g8 with ⟨a, b, d, e⟩ | ⟨a, b, d, e⟩
    · rw [if_pos a]
      exact ⟨[], (List.append_nil _).symm, Nat.zero_le _, b, fun j x hx => by simp at hx⟩
    · rw [if_neg a]
      refine ⟨_, rfl, Nat.le_refl _, b, fun j x hx => ?_⟩
      obtain ⟨j9, d9, q1, q2, q3, q4, q5⟩ := (hcu c hc).resolve_left a
      have ej : j = 0 := by
        have := (List.getElem?_eq_some_iff.mp hx).1
        simp only [List.length_singleton] at this
        omega
      subst ej
      obtain rfl := Option.some.inj hx
      rw [Nat.add_zero, d, e, upd_at, upd_at, e16]
      dsimp only
      rw [q4, q5, nI_clamp (by omega), nI_clamp (by omega)]
      exact ⟨rfl, nI_add _ _⟩
  · intro j hj
    rcases g8 with ⟨a, b, d, e⟩ | ⟨a, b, d, e⟩
    · rw [d, e]
      exact ⟨rfl, rfl⟩
    · rw [d, e, upd_ne hj, upd_ne hj]
      exact ⟨rfl, rfl⟩
