/-! words that the invariant wants -/
def actB (GL : List GG) (c : Nat) : Bool := GL.any (fun g => decide (g.1 = c))
theorem actB_t {GL : List GG} {c : Nat} : actB GL c = true ↔ ∃ g, g ∈ GL ∧ g.1 = c := by
  unfold actB
  rw [List.any_eq_true]
  simp
theorem nI_ltp {a b : Nat} (ha : a < 2 ^ 31) (hb : b < 2 ^ 31) : nI a < nI b ↔ a < b := by
  rw [Int32.lt_iff_toInt_lt, nI_toInt ha, nI_toInt hb]
  omega
def mI (S : PS) : Prop := fI (s_ar S) (s_L S) (s_C S) (s_t S) (s_G S) ∧ s_L S ≤ 16 ∧ cuI (s_ar S) (s_C S) ∧ ∀ g, g ∈ s_G S → ovP (s_ar S) (s_t S) g = false
def iff0 (f : Nat) (S' S : PS) : PS := if f = 0 then S' else S
theorem passK_keep (S : PS) : ∀ j, s_ar (passK S j) = s_ar S ∧ s_L (passK S j) = s_L S ∧ s_B (passK S j) = s_B S ∧ s_C (passK S j) = s_C S ∧ s_t (passK S j) = s_t S + j
  | 0 => ⟨rfl, rfl, rfl, rfl, rfl⟩
  | j + 1 => by
    obtain ⟨a1, a2, a3, a4, a5⟩ := passK_keep S j
    obtain ⟨b1, b2, b3, b4, b5⟩ := fold_keep (dueP (passK S j)) (tkP (passK S j))
    refine ⟨b1.trans a1, b2.trans a2, b3.trans a3, b4.trans a4, b5.trans ?_⟩
    show s_t (passK S j) + 1 = _
    rw [a5]
    rfl
theorem goF_act {GL : List GG} {C c : Nat} (hg : gI C GL) : (actB GL c = false ∧ goF GL c = none) ∨ ∃ g, g ∈ GL ∧ g.1 = c ∧ actB GL c = true ∧ goF GL c = some g := by
  cases z : actB GL c with
  | false => exact Or.inl ⟨rfl, goF_none (fun g h1 h2 => by have := actB_t.mpr ⟨g, h1, h2⟩; rw [z] at this; cases this)⟩
  | true =>
    obtain ⟨g, h1, h2⟩ := actB_t.mp z
    exact Or.inr ⟨g, h1, h2, rfl, goF_some hg.1 h1 h2⟩
theorem fall_mem {GL : List GG} {c t : Nat} {g : GG} (h : g ∈ fallG c t GL) : ∃ x, x ∈ GL ∧ x.1 = g.1 ∧ x.2.1 = g.2.1 ∧ ((g.1 = c ∧ g.2.2 = t + 1) ∨ (g.1 ≠ c ∧ g.2.2 = x.2.2)) := by
  unfold fallG at h
  obtain ⟨x, hx, e⟩ := List.mem_map.mp h
  by_cases c1 : x.1 = c
  · rw [if_pos c1] at e
    subst e
    exact ⟨x, hx, rfl, rfl, Or.inl ⟨c1, rfl⟩⟩
  · rw [if_neg c1] at e
    subst e
    exact ⟨x, hx, rfl, rfl, Or.inr ⟨c1, rfl⟩⟩
