/-! the model's rows over the book's state -/
def mE : List Nat := [2, 3, 4, 5, 6, 7, 9, 11, 12, 13, 14, 15, 16]
def aE (ar R : Nat → Nat → Int32) : Prop := ∀ k, k ∈ mE → R k = ar k
theorem sR.aE {ar R R' : Nat → Nat → Int32} (h : sR R R') (a : aE ar R) : aE ar R' := fun k hk => by
  rw [h k (fun z => by subst z; revert hk; decide) (fun z => by subst z; revert hk; decide) (fun z => by subst z; revert hk; decide)]
  exact a k hk
theorem aE.lev {ar R : Nat → Nat → Int32} (h : aE ar R) (L : Nat) (B : Int32) (c i : Nat) : levP R L B c i = levP ar L B c i := by
  have e1 : toldF R c = toldF ar c := by
    unfold toldF
    rw [h 14 (by decide)]
  unfold levP cuD
  dsimp only
  rw [e1, arrF_same ⟨h 2 (by decide), h 3 (by decide), h 4 (by decide), h 7 (by decide)⟩ L B _ 16]
theorem aE.mas {ar R : Nat → Nat → Int32} (h : aE ar R) (t : Nat) (g : GG) : masP R t g = masP ar t g := by
  unfold masP
  rw [h 12 (by decide), h 13 (by decide)]
theorem aE.go {ar R : Nat → Nat → Int32} {t : Nat} {g : GG} (h : aE ar R) (hg : goI ar t g) : goI R t g := by
  unfold goI at *
  rw [h 12 (by decide), h 13 (by decide)]
  exact hg
theorem aE.fI {ar R : Nat → Nat → Int32} {L C t : Nat} {GL : List GG} (h : aE ar R) (hf : fI ar L C t GL) : fI R L C t GL := by
  obtain ⟨h1, h2, h3, h4, h5⟩ := hf
  refine ⟨?_, ?_, h3, h4, fun g hg => h.go (h5 g hg)⟩
  · unfold laI
    rw [h 5 (by decide)]
    exact h1
  · unfold toI
    rw [h 14 (by decide)]
    exact h2
theorem aE.to {ar R : Nat → Nat → Int32} {C : Nat} (h : aE ar R) (hf : toI ar C) : toI R C := by
  unfold toI
  rw [h 14 (by decide)]
  exact hf
theorem aE.mix {ar R : Nat → Nat → Int32} (h : aE ar R) (L : Nat) (B : Int32) (t i : Nat) (GL : List GG) : mixG R L B t GL i = mixG ar L B t GL i := by
  have e1 : mixHG R L B t i = mixHG ar L B t i := by
    funext l g
    unfold mixHG
    rw [h.mas, h.lev, h 11 (by decide)]
  have e2 : mixLG R L B t i = mixLG ar L B t i := by
    funext l g
    unfold mixLG
    rw [h.mas, h.lev, h 11 (by decide)]
  unfold mixG
  rw [e1, e2]
theorem aE.ldN {ar R : Nat → Nat → Int32} (h : aE ar R) (L : Nat) (B : Int32) (t : Nat) (GL : List GG) (ph : Int32) : ∀ n, ldN R L B t GL ph n = ldN ar L B t GL ph n
  | 0 => rfl
  | n + 1 => by
    have ih := aE.ldN h L B t GL ph n
    by_cases c : n < L ∧ ar 6 n = ph
    · rw [ldN_y c, ldN_y (ar := R) (by rw [h 6 (by decide)]; exact c), ih, h.mix, h 5 (by decide)]
    · rw [ldN_n c, ldN_n (ar := R) (by rw [h 6 (by decide)]; exact c), ih]
theorem aE.grt {ar R : Nat → Nat → Int32} (h : aE ar R) (L : Nat) (B : Int32) (i : Nat) : grtG R L B i = grtG ar L B i := by
  funext x g
  unfold grtG
  rw [h.lev]
theorem aE.askN {ar R : Nat → Nat → Int32} (h : aE ar R) (L : Nat) (B : Int32) (GL : List GG) (c : Nat) (ph : Int32) : ∀ n, askN R L B GL c ph n = askN ar L B GL c ph n
  | 0 => rfl
  | n + 1 => by
    have ih := aE.askN h L B GL c ph n
    by_cases d : n < L ∧ ar 6 n = ph
    · rw [askN_y d, askN_y (ar := R) (by rw [h 6 (by decide)]; exact d), ih, h.lev, h.grt, h 5 (by decide)]
    · rw [askN_n d, askN_n (ar := R) (by rw [h 6 (by decide)]; exact d), ih]
theorem aE.ask {ar R : Nat → Nat → Int32} (h : aE ar R) (L : Nat) (B : Int32) (GL : List GG) (c : Nat) (ph : Int32) : askP R L B GL c ph = askP ar L B GL c ph := by
  unfold askP
  rw [h.askN]
theorem aE.can {ar R : Nat → Nat → Int32} (h : aE ar R) (L : Nat) (B : Int32) (GL : List GG) (c : Nat) : canP R L B GL c = canP ar L B GL c := by
  unfold canP
  rw [h.ask, h.ask, h.ask, h 9 (by decide)]
/-! the goings' rows when one begins -/
theorem actB_beg {GL : List GG} {c t k : Nat} : actB (gBeg c t GL) k = (decide (k = c) || actB GL k) := by
  rw [Bool.eq_iff_iff, Bool.or_eq_true, actB_t, actB_t, decide_eq_true_iff]
  unfold gBeg
  refine ⟨fun ⟨g, hg, e⟩ => ?_, fun h => ?_⟩
  · rcases List.mem_append.mp hg with h | h
    · exact Or.inr ⟨g, (List.mem_filter.mp h).1, e⟩
    · rw [List.mem_singleton] at h
      subst h
      exact Or.inl e.symm
  · by_cases ek : k = c
    · exact ⟨(c, t, 0), List.mem_append_right _ (List.mem_singleton.mpr rfl), ek.symm⟩
    · obtain ⟨g, hg, e⟩ := h.resolve_left ek
      refine ⟨g, List.mem_append_left _ (List.mem_filter.mpr ⟨hg, ?_⟩), e⟩
      have : ¬ g.1 = c := fun z => ek (e.symm.trans z)
      simp [this]
theorem gR_beg {R R' : Nat → Nat → Int32} {C gn c t : Nat} {GL : List GG} (h : gR R C gn GL) (e17 : R' 17 = upd (R 17) c 1) (e18 : R' 18 = upd (R 18) c (nI t)) (e19 : R' 19 = upd (R 19) c (nI gn)) (e20 : R' 20 = upd (R 20) c (-1)) : gR R' C (gn + 1) (gBeg c t GL) := by
  obtain ⟨h17, hg, on, hon, hp⟩ := h
  have hm : ∀ g, g ∈ gBeg c t GL → (g ∈ GL ∧ g.1 ≠ c) ∨ g = (c, t, 0) := fun g q => by
    unfold gBeg at q
    rcases List.mem_append.mp q with z | z
    · have := List.mem_filter.mp z
      exact Or.inl ⟨this.1, by simpa using this.2⟩
    · exact Or.inr (List.mem_singleton.mp z)
  refine ⟨fun k hk => ?_, fun g q => ?_, fun k => if k = c then gn else on k, fun g q => ?_, ?_⟩
  · rw [e17, actB_beg]
    by_cases e : k = c
    · subst e
      rw [upd_at, decide_eq_true rfl]
      rfl
    · rw [upd_ne e, decide_eq_false e, h17 k hk]
      rfl
  · rcases hm g q with ⟨q1, q2⟩ | rfl
    · rw [e18, e20, upd_ne q2, upd_ne q2]
      exact hg g q1
    · rw [e18, e20]
      exact ⟨upd_at _ _ _, upd_at _ _ _⟩
  · dsimp only
    rcases hm g q with ⟨q1, q2⟩ | rfl
    · rw [e19, upd_ne q2, if_neg q2]
      have := hon g q1
      exact ⟨this.1, by omega⟩
    · rw [e19, if_pos rfl]
      exact ⟨upd_at _ _ _, by omega⟩
  · unfold gBeg
    rw [List.pairwise_append]
    have hf : (GL.filter (fun g => !decide (g.1 = c))).Pairwise (fun a b => on a.1 < on b.1) := hp.filter _
    refine ⟨?_, List.pairwise_singleton _ _, fun a ha b hb => ?_⟩
    · refine List.Pairwise.imp_of_mem (fun {a b} ha hb q => ?_) hf
      have a1 : ¬ a.1 = c := by simpa using (List.mem_filter.mp ha).2
      have b1 : ¬ b.1 = c := by simpa using (List.mem_filter.mp hb).2
      dsimp only
      rw [if_neg a1, if_neg b1]
      exact q
    · rw [List.mem_singleton] at hb
      subst hb
      have a1 : ¬ a.1 = c := by simpa using (List.mem_filter.mp ha).2
      dsimp only
      rw [if_neg a1, if_pos rfl]
      exact (hon a (List.mem_filter.mp ha).1).2
