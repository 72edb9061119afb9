/-! the goings' rows when some end, and when one is released -/
theorem actB_filter {GL : List GG} {p : GG → Bool} {q : Nat → Bool} (hq : ∀ g, g ∈ GL → p g = q g.1) {k : Nat} : actB (GL.filter p) k = (actB GL k && q k) := by
  rw [Bool.eq_iff_iff, Bool.and_eq_true, actB_t, actB_t]
  refine ⟨fun ⟨g, hg, e⟩ => ?_, fun ⟨⟨g, hg, e⟩, h⟩ => ⟨g, List.mem_filter.mpr ⟨hg, by rw [hq g hg, e]; exact h⟩, e⟩⟩
  have h1 := List.mem_filter.mp hg
  exact ⟨⟨g, h1.1, e⟩, by rw [← e, ← hq g h1.1]; exact h1.2⟩
theorem gR_end {R R' : Nat → Nat → Int32} {C gn : Nat} {GL : List GG} {p : GG → Bool} {q : Nat → Bool} (h : gR R C gn GL) (hq : ∀ g, g ∈ GL → p g = q g.1) (e17 : ∀ k, k < C → R' 17 k = b2i (!decide (R 17 k = 0) && q k)) (e18 : R' 18 = R 18) (e19 : R' 19 = R 19) (e20 : R' 20 = R 20) : gR R' C gn (GL.filter p) := by
  obtain ⟨h17, hg, on, hon, hp⟩ := h
  refine ⟨fun k hk => ?_, fun g q => ?_, on, fun g q => ?_, hp.filter _⟩
  · rw [e17 k hk, actB_filter hq, h17 k hk]
    cases actB GL k <;> rfl
  · rw [e18, e20]
    exact hg g (List.mem_filter.mp q).1
  · rw [e19]
    exact hon g (List.mem_filter.mp q).1
/-- what ends asks of a cue -/
def stays (R : Nat → Nat → Int32) (now : Int32) (k : Nat) : Bool := decide (R 20 k = -1) || decide (now - R 20 k < R 13 k)
theorem stays_is {ar R : Nat → Nat → Int32} {C gn t : Nat} {GL : List GG} (h : gR R C gn GL) (a : aE ar R) : ∀ g, g ∈ GL → (!ovP ar t g) = stays R (nI t) g.1 := fun g hg => by
  unfold ovP stays
  rw [(h.2.1 g hg).2, a 13 (by decide), Bool.not_and, Bool.not_not, Bool.not_not]
theorem fall_mem {GL : List GG} {c t : Nat} {g : GG} (h : g ∈ fallG c t GL) : ∃ x, x ∈ GL ∧ x.1 = g.1 ∧ x.2.1 = g.2.1 ∧ ((g.1 = c ∧ g.2.2 = t + 1) ∨ (g.1 ≠ c ∧ g.2.2 = x.2.2)) := by
  unfold fallG at h
  obtain ⟨x, hx, e⟩ := List.mem_map.mp h
  by_cases c1 : x.1 = c
  · rw [if_pos c1] at e
    subst e
    exact ⟨x, hx, rfl, rfl, Or.inl ⟨c1, rfl⟩⟩
  · rw [if_neg c1] at e
    subst e
    exact ⟨x, hx, rfl, rfl, Or.inr ⟨c1, rfl⟩⟩
theorem gR_fall {R R' : Nat → Nat → Int32} {C gn c t : Nat} {GL : List GG} (h : gR R C gn GL) (e17 : R' 17 = R 17) (e18 : R' 18 = R 18) (e19 : R' 19 = R 19) (e20 : R' 20 = upd (R 20) c (nI t)) : gR R' C gn (fallG c t GL) := by
  obtain ⟨h17, hg, on, hon, hp⟩ := h
  refine ⟨fun k hk => ?_, fun g q => ?_, on, fun g q => ?_, ?_⟩
  · rw [e17, h17 k hk]
    congr 1
    rw [Bool.eq_iff_iff, actB_t, actB_t]
    refine ⟨fun ⟨g, hg, e⟩ => ?_, fun ⟨g, hg, e⟩ => ?_⟩
    · refine ⟨_, List.mem_map_of_mem hg, ?_⟩
      rw [← e]
      split <;> rfl
    · obtain ⟨x, hx, ex, -⟩ := fall_mem hg
      exact ⟨x, hx, ex.trans e⟩
  · obtain ⟨x, hx, ex, e2, e3⟩ := fall_mem q
    have := hg x hx
    rw [ex] at this
    rw [e18, e20]
    refine ⟨by rw [this.1, e2], ?_⟩
    rcases e3 with ⟨a, b⟩ | ⟨a, b⟩
    · rw [a, b, upd_at]
      rfl
    · rw [upd_ne a, b, this.2]
  · obtain ⟨x, hx, ex, -⟩ := fall_mem q
    have := hon x hx
    rw [e19, ← ex]
    exact this
  · unfold fallG
    rw [List.pairwise_map]
    refine hp.imp (fun {a b} q => ?_)
    have e : ∀ x : GG, (if x.1 = c then (x.1, x.2.1, t + 1) else x).1 = x.1 := fun x => by split <;> rfl
    rw [e, e]
    exact q
