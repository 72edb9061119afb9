/-! the replay: what one cue's entries leave of the others -/
abbrev noc (c : Nat) : GG → Bool := fun g => !decide (g.1 = c)
theorem fall_noc {c c' t : Nat} {GL : List GG} : (fallG c' t GL).filter (noc c) = fallG c' t (GL.filter (noc c)) := by
  unfold fallG
  rw [List.filter_map]
  congr 1
  refine List.filter_congr (fun g _ => ?_)
  show noc c (if g.1 = c' then (g.1, g.2.1, t + 1) else g) = noc c g
  split <;> rfl
theorem beg_noc {c c' t : Nat} {GL : List GG} : (gBeg c' t GL).filter (noc c) = if c' = c then GL.filter (noc c) else gBeg c' t (GL.filter (noc c)) := by
  unfold gBeg
  rw [List.filter_append, List.filter_filter]
  by_cases e : c' = c
  · subst e
    rw [if_pos rfl, List.filter_cons_of_neg (by simp [noc]), List.filter_nil, List.append_nil]
    refine List.filter_congr (fun g _ => ?_)
    simp [noc]
  · rw [if_neg e, List.filter_filter, List.filter_cons_of_pos (by simp [noc, e]), List.filter_nil]
    congr 1
    refine List.filter_congr (fun g _ => ?_)
    exact Bool.and_comm _ _
theorem rtStep_noc {c : Nat} {G1 G2 : List GG} (h : G1.filter (noc c) = G2.filter (noc c)) (e : Int32) : (rtStep G1 e).filter (noc c) = (rtStep G2 e).filter (noc c) := by
  unfold rtStep
  split
  · rw [fall_noc, fall_noc, h]
  · rw [beg_noc, beg_noc, h]
theorem rtStep_own {c : Nat} {GL : List GG} {e : Int32} (h : eC e = c) : (rtStep GL e).filter (noc c) = GL.filter (noc c) := by
  unfold rtStep
  split
  · rw [fall_noc, h]
    unfold fallG
    have : ∀ g, g ∈ GL.filter (noc c) → (if g.1 = c then (g.1, g.2.1, eT e + 1) else g) = g := fun g hg => by
      have h1 := (List.mem_filter.mp hg).2
      exact if_neg (by simpa [noc] using h1)
    exact (List.map_congr_left this).trans (List.map_id' _)
  · rw [beg_noc, if_pos h]
theorem rt_noc {c : Nat} : ∀ (HL : List Int32) (G1 G2 : List GG), G1.filter (noc c) = G2.filter (noc c) → (HL.foldl rtStep G1).filter (noc c) = (HL.foldl rtStep G2).filter (noc c)
  | [], _, _, h => h
  | e :: HL, G1, G2, h => rt_noc HL _ _ (rtStep_noc h e)
theorem rt_erase {c : Nat} {HL : List Int32} {k : Nat} {e : Int32} (hk : HL[k]? = some e) (he : eC e = c) : (rtP (HL.eraseIdx k)).filter (noc c) = (rtP HL).filter (noc c) := by
  have hl := (List.getElem?_eq_some_iff.mp hk).1
  have e1 : HL = HL.take k ++ e :: HL.drop (k + 1) := by
    have h1 := List.take_append_drop k HL
    have h2 : HL.drop k = e :: HL.drop (k + 1) := by
      rw [List.drop_eq_getElem_cons hl]
      congr 1
      exact (List.getElem?_eq_some_iff.mp hk).2
    rw [h2] at h1
    exact h1.symm
  have e2 : HL.eraseIdx k = HL.take k ++ HL.drop (k + 1) := List.eraseIdx_eq_take_drop_succ _ _
  unfold rtP
  rw [e2, List.foldl_append]
  conv => rhs; rw [e1, List.foldl_append, List.foldl_cons]
  exact rt_noc _ _ _ (rtStep_own he).symm
theorem rt_strike {c : Nat} {HL : List Int32} {e : Int32} (he : eC e = c) : (rtP (strF e HL)).filter (noc c) = (rtP HL).filter (noc c) := by
  rcases strF_is e HL with ⟨j, h1, h2⟩ | ⟨h1, _⟩
  · rw [h2]
    exact rt_erase h1 he
  · rw [h1]
theorem rt_begin {t c : Nat} {HL : List Int32} (ht : t < 2 ^ 25) (hc : c < 12) : rtP (strF (entB t c) HL ++ [entB t c]) = gBeg c t (rtP HL) := by
  obtain ⟨h1, h2, h3⟩ := entB_facts ht hc
  have := rt_strike (HL := HL) h1
  unfold rtP at this ⊢
  rw [List.foldl_append, List.foldl_cons, List.foldl_nil]
  unfold rtStep
  rw [if_neg (by rw [h3]; decide), h1, h2]
  unfold gBeg
  congr 1
theorem rt_release {t c : Nat} {HL : List Int32} (ht : t < 2 ^ 25) (hc : c < 12) : rtP (HL ++ [entF (nI t) (nI c) (nI 1)]) = fallG c t (rtP HL) := by
  obtain ⟨h1, h2, h3⟩ := entR_facts ht hc
  unfold rtP
  rw [List.foldl_append, List.foldl_cons, List.foldl_nil]
  conv => lhs; unfold rtStep
  rw [if_pos h3, h1, h2]
  rfl
/-! over or not, in numbers -/
theorem ov_iff {ar : Nat → Nat → Int32} {t d : Nat} {g : GG} (ht : t < 2 ^ 24) (hr : g.2.2 ≤ t + 1) (hd : d ≤ 60) (e13 : ar 13 g.1 = nI d) : ovP ar t g = false ↔ (g.2.2 ≠ 0 → t - (g.2.2 - 1) < d) := by
  obtain ⟨c, w, r⟩ := g
  unfold ovP
  dsimp only at *
  cases r with
  | zero =>
    rw [decide_eq_true (show relI 0 = -1 from rfl)]
    simp
  | succ r =>
    rw [decide_eq_false (relI_ne (by omega)), e13, show relI (r + 1) = nI r from rfl, sub_nI (by omega)]
    rw [Bool.not_false, Bool.true_and, Bool.not_eq_false', decide_eq_true_iff, nI_ltp (by omega) (by omega)]
    simp
theorem ov_mono {ar : Nat → Nat → Int32} {t d : Nat} {g : GG} (ht : t + 1 < 2 ^ 24) (hr : g.2.2 ≤ t + 1) (hd : d ≤ 60) (e13 : ar 13 g.1 = nI d) (h : ovP ar t g = true) : ovP ar (t + 1) g = true := by
  cases z : ovP ar (t + 1) g with
  | true => rfl
  | false =>
    have h1 := (ov_iff (by omega) (by omega) hd e13).mp z
    have h2 : ovP ar t g = false := (ov_iff (by omega) hr hd e13).mpr (fun q => by have := h1 q; omega)
    rw [h2] at h
    cases h
/-! the book's invariant -/
def upI (ar : Nat → Nat → Int32) (C : Nat) : Prop := ∀ c, c < C → (∃ u, u ≤ 60 ∧ ar 12 c = nI u) ∧ ∃ d, d ≤ 60 ∧ ar 13 c = nI d
def nwI (S : PS) : Prop := ∀ x, x ∈ s_N S → x.1 < s_C S ∧ s_t S < x.2 ∧ x.2 ≤ s_t S + 60
def rpI (S : PS) : Prop := (rtP (s_H S)).filter (fun g => !ovP (s_ar S) (s_t S) g) = s_G S ∧ ∀ g, g ∈ rtP (s_H S) → g.1 < s_C S ∧ g.2.2 ≤ s_t S + 1
def cI (S : PS) : Prop := fI (s_ar S) (s_L S) (s_C S) (s_t S) (s_G S) ∧ s_L S ≤ 16 ∧ cuI (s_ar S) (s_C S) ∧ zI (s_ar S) (s_L S) (s_C S) ∧ upI (s_ar S) (s_C S) ∧ nwI S ∧ capP (s_n S) ∧ (s_H S).length ≤ s_n S ∧ (∀ e, e ∈ s_H S → hEn (s_t S) (s_C S) e) ∧ rpI S
theorem cI.none {S : PS} (h : cI S) : ∀ g, g ∈ s_G S → ovP (s_ar S) (s_t S) g = false := fun g hg => by
  obtain ⟨_, ⟨d, hd, e13, h3⟩, _, h5, _, h7⟩ := h.1.2.2.2.2 g hg
  exact (ov_iff h7 h5 hd e13).mpr h3
theorem cI.mI {S : PS} (h : cI S) : mI S := ⟨h.1, h.2.1, h.2.2.1, h.none⟩
theorem cI.eI {S : PS} (h : cI S) (ht : s_t S < 2 ^ 24) : eI (s_C S) (s_H S) := fun e he => by
  have := (h.2.2.2.2.2.2.2.2.1 e he).facts h.1.2.2.1 (by omega)
  exact ⟨this.1, this.2.1, this.2.2.1⟩
