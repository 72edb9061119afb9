theorem sR.gR {R R' : Nat → Nat → Int32} {C gn : Nat} {GL : List GG} (h : sR R R') (g : gR R C gn GL) : gR R' C gn GL := g.same (h 17 (by decide) (by decide) (by decide)) (h 18 (by decide) (by decide) (by decide)) (h 19 (by decide) (by decide) (by decide)) (h 20 (by decide) (by decide) (by decide))
def hdI : List GG → Int32
  | [] => -1
  | g :: _ => nI g.1
theorem nI_ltp {a b : Nat} (ha : a < 2 ^ 31) (hb : b < 2 ^ 31) : nI a < nI b ↔ a < b := by
  rw [Int32.lt_iff_toInt_lt, nI_toInt ha, nI_toInt hb]
  omega
theorem aft_is {R : Nat → Nat → Int32} {C : Nat} {GL pre post : List GG} {on : Nat → Nat} {la f : Int32} {gn : Nat} (h17 : ∀ c, c < C → R 17 c = b2i (actB GL c)) (hon : ∀ g, g ∈ GL → R 19 g.1 = nI (on g.1) ∧ on g.1 < gn) (hp : GL.Pairwise (fun a b => on a.1 < on b.1)) (hC : ∀ g, g ∈ GL → g.1 < C) (hgn : gn ≤ 2 ^ 30) (hs : GL = pre ++ post) (h1 : ∀ g, g ∈ pre → ¬ la < R 19 g.1) (h2 : ∀ g, g ∈ post → la < R 19 g.1) (h : aftR R la f C) : f = hdI post := by
  have hac : ∀ g, g ∈ GL → R 17 g.1 ≠ 0 := fun g hg => by
    rw [h17 _ (hC g hg)]
    exact b2i_n0.mpr (actB_t.mpr ⟨g, hg, rfl⟩)
  rcases h with ⟨e, hno⟩ | ⟨q, hq, e, ha, hl, hmin⟩
  · cases post with
    | nil => exact e
    | cons g p =>
      have hg : g ∈ GL := by rw [hs]; simp
      exact absurd (h2 g List.mem_cons_self) (hno g.1 (hC g hg) (hac g hg))
  · rw [h17 q hq] at ha
    obtain ⟨x, hx, ex⟩ := actB_t.mp (b2i_n0.mp ha)
    subst ex
    have hx2 : x ∈ post := by
      rw [hs] at hx
      exact (List.mem_append.mp hx).elim (fun z => absurd hl (h1 x z)) id
    cases post with
    | nil => simp at hx2
    | cons g p =>
      rw [e]
      unfold hdI
      rcases List.mem_cons.mp hx2 with r | r
      · rw [r]
      · have hg : g ∈ GL := by rw [hs]; simp
        have q1 := hmin g.1 (hC g hg) (hac g hg) (h2 g List.mem_cons_self)
        rw [hs] at hp
        have q2 := (List.pairwise_cons.mp (List.pairwise_append.mp hp).2.1).1 x r
        have o1 := hon g hg
        have o2 := hon x hx
        rw [o1.1, o2.1] at q1
        have q3 := Int32.le_iff_toInt_le.mp q1
        rw [nI_toInt (by omega), nI_toInt (by omega)] at q3
        omega
theorem aft_all {R : Nat → Nat → Int32} {C gn : Nat} {GL : List GG} {f : Int32} (hr : gR R C gn GL) (hg : gI C GL) (hgn : gn ≤ 2 ^ 30) (h : aftR R (-1) f C) : f = hdI GL := by
  obtain ⟨h17, _, on, hon, hp⟩ := hr
  refine aft_is (pre := []) h17 hon hp hg.2 hgn rfl (fun g q => by simp at q) (fun g q => ?_) h
  have := hon g q
  rw [this.1, Int32.lt_iff_toInt_lt, nI_toInt (by omega)]
  have e : (-1 : Int32).toInt = -1 := by decide
  omega
theorem aft_next {R : Nat → Nat → Int32} {C gn : Nat} {GL pre post : List GG} {g : GG} {f : Int32} (hr : gR R C gn GL) (hg : gI C GL) (hgn : gn ≤ 2 ^ 30) (hs : GL = pre ++ g :: post) (h : aftR R (R 19 g.1) f C) : f = hdI post := by
  obtain ⟨h17, _, on, hon, hp⟩ := hr
  have hm : ∀ x, x ∈ pre ∨ x = g ∨ x ∈ post → x ∈ GL := fun x q => by rw [hs]; simpa using q
  have hp2 := hp
  rw [hs] at hp2
  have p1 := List.pairwise_append.mp hp2
  have og := hon g (hm g (Or.inr (Or.inl rfl)))
  refine aft_is (pre := pre ++ [g]) (post := post) h17 hon hp hg.2 hgn (by rw [hs]; simp) (fun x q => ?_) (fun x q => ?_) h
  · have hx : x ∈ pre ∨ x = g := by simpa using q
    have ox := hon x (hm x (hx.elim Or.inl (fun z => Or.inr (Or.inl z))))
    rw [ox.1, og.1, nI_ltp (by omega) (by omega)]
    rcases hx with z | z
    · have := p1.2.2 x z g List.mem_cons_self
      omega
    · rw [z]; omega
  · have ox := hon x (hm x (Or.inr (Or.inr q)))
    rw [ox.1, og.1, nI_ltp (by omega) (by omega)]
    exact (List.pairwise_cons.mp p1.2.1).1 x q