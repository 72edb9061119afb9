/-! a book's rows while it is made, and step by step -/
theorem capP.b {n : Nat} (h : capP n) : 64 ≤ n ∧ n ≤ 122880 := by rcases h with rfl | rfl | rfl | rfl | rfl | rfl | rfl | rfl | rfl | rfl | rfl | rfl <;> decide
theorem iI.cap {S : PS} {k : Nat} (h : iI S k) : 64 ≤ s_n S ∧ s_n S ≤ 122880 := h.1.2.2.2.2.2.2.1.b
theorem grw_le (n c : Nat) (h : n ≤ 122880) : n ≤ grw n c := by
  unfold grw
  split
  · exact Nat.le_refl _
  · split <;> omega
theorem x_less {G : XG} {F : XF} {Q : State → Prop} {a b : Nat} {h h2 : HM} {pc : Nat} {L : List (Option Value)} {st : List Value} (hs : ∀ (q : Nat) (e : va_E), h2 q = some e → h q = some e) (kk : x_W G F Q a b h2 pc L st) : x_W G F Q a b h pc L st := fun H locs ls hH hS hL => kk H locs ls (fun q e z => hH q e (hs q e z)) hS hL
theorem gW_keep (S : PS) (c : Nat) (hn : s_n S ≤ 122880) : s_ar (gW S c) = s_ar S ∧ s_L (gW S c) = s_L S ∧ s_B (gW S c) = s_B S ∧ s_C (gW S c) = s_C S ∧ s_t (gW S c) = s_t S ∧ s_b (gW S c) = s_b S ∧ s_n S ≤ s_n (gW S c) := by
  unfold gW
  split
  · exact ⟨rfl, rfl, rfl, rfl, rfl, rfl, grw_le _ _ hn⟩
  · exact ⟨rfl, rfl, rfl, rfl, rfl, rfl, Nat.le_refl _⟩
theorem rW_keep (S : PS) (c : Nat) (hn : s_n S ≤ 122880) : s_ar (rW S c) = s_ar S ∧ s_L (rW S c) = s_L S ∧ s_B (rW S c) = s_B S ∧ s_C (rW S c) = s_C S ∧ s_t (rW S c) = s_t S ∧ s_b (rW S c) = s_b S ∧ s_n S ≤ s_n (rW S c) := by
  unfold rW
  split
  · exact ⟨rfl, rfl, rfl, rfl, rfl, rfl, Nat.le_refl _⟩
  · split
    · exact ⟨rfl, rfl, rfl, rfl, rfl, rfl, grw_le _ _ hn⟩
    · exact ⟨rfl, rfl, rfl, rfl, rfl, rfl, Nat.le_refl _⟩
theorem gW_iI {S : PS} {k c : Nat} (h : iI S k) (hk : k ≤ 511) (hc : c < s_C S) : iI (gW S c) (k + 1) := by
  unfold gW
  split
  · exact iI_go h hk hc
  · exact h.up
theorem rW_iI {S : PS} {k c : Nat} (h : iI S k) (hk : k ≤ 511) (hc : c < s_C S) : iI (rW S c) (k + 1) := by
  have hC := h.1.1.2.2.1
  unfold rW
  split
  · exact h.up
  · rename_i g hg
    split
    · rename_i hr
      have z := iI_rel (c := nI c) h hk (by
        unfold fRel
        rw [if_pos (isN_y hc (by omega)), nI_clamp (by omega), hg]
        exact if_pos hr)
      rw [nI_clamp (by omega)] at z
      exact z
    · exact h.up
theorem pW_n {S : PS} {k n : Nat} (h : iI S k) (hk : k ≤ 511) (hn : n ≤ 20) : s_n S ≤ s_n (passK S n) := passK_le (k := n) (fun i hi => (iI_pI h hk i (by omega)).1) 0 (Nat.zero_le _)
theorem lS.of {S S' : PS} (h : lS S) (e1 : s_ar S' = s_ar S) (e2 : s_L S' = s_L S) (e3 : s_C S' = s_C S) : lS S' := ⟨e2.trans h.1, e3.trans h.2.1, h.2.2.of (fun k _ => by rw [e1])⟩
theorem lwA.same {G : XG} {ca ma la pa ta : Nat} {S S' : PS} {hA : HM} (h : lwA G ca ma la pa ta S hA) (e1 : s_ar S' = s_ar S) (e2 : s_B S' = s_B S) (e3 : s_t S' = s_t S) (e4 : s_b S' = s_b S) : lwA G ca ma la pa ta S' hA := by
  obtain ⟨cf, mf, lf, pf, tf, ⟨a1, b1⟩, ⟨a2, b2⟩, ⟨a3, b3⟩, ⟨a4, b4⟩, a5, b5⟩ := h
  exact ⟨cf, mf, lf, pf, tf, ⟨a1, b1.of e2 e3 e4⟩, ⟨a2, b2.of (fun k _ => by rw [e1])⟩, ⟨a3, b3.of (by rw [e1])⟩, ⟨a4, b4.of (by rw [e1])⟩, a5, b5.of (fun k _ => by rw [e1])⟩
theorem lw_c {G : XG} {ca ma la pa ta : Nat} {S : PS} {hA : HM} {cf cf' mf lf pf tf : Nat → Int32} (hca : hA ca = some (rowI G 5 cf)) (hma : hA ma = some (rowI G 60 mf)) (hmm : lRm S mf) (hla : hA la = some (rowI G 60 lf)) (hll : lRl S lf) (hpa : hA pa = some (rowI G 3 pf)) (hpp : lRp S pf) (hta : hA ta = some (rowI G 18 tf)) (htt : lRt S tf) (hcc : lRc S cf') : lwA G ca ma la pa ta S (x_up hA ca (rowI G 5 cf')) :=
  ⟨cf', mf, lf, pf, tf, ⟨x_up_eq _ _ _, hcc⟩, ⟨(x_up_ne (row_ne hma hca (by decide))).trans hma, hmm⟩, ⟨(x_up_ne (row_ne hla hca (by decide))).trans hla, hll⟩, ⟨(x_up_ne (row_ne hpa hca (by decide))).trans hpa, hpp⟩, (x_up_ne (row_ne hta hca (by decide))).trans hta, htt⟩
/-- behind j steps -/
def bkI (G : XG) (xa ca ma la pa ta j : Nat) (S : PS) (h : HM) : Prop := ∃ hA : HM, lH G xa S hA h ∧ lwA G ca ma la pa ta S hA ∧ lS S ∧ iI S (34 + j) ∧ s_b S ≤ 10220 * j
/-- the book's frame -/
abbrev rmB : Room := { frames := 10, cells := 124500, slots := 380000, locals := 220 }
def bkE (G : XG) (F : XF) (b L : Nat) (xs : Nat → Int32) : Prop := x_E G F cL_book RL wsL_book 13 (some .boolean) rmB ∧ scr G b L xs (f_s F) (f_s F).heap ∧ L < 2 ^ 31
/-- while lamps and cues are made -/
def lgA (G : XG) (ca ma la pa ta : Nat) (S : PS) (hA : HM) : Prop := ∃ cf mf lf pf tf : Nat → Int32, (hA ca = some (rowI G 5 cf) ∧ cf 0 = nI (s_L S) ∧ cf 1 = nI (s_C S) ∧ cf 2 = s_B S ∧ cf 3 = nI (s_t S) ∧ cf 4 = nI 0) ∧ (hA ma = some (rowI G 60 mf) ∧ (∀ k, k < s_L S → mf (6 * k) = s_ar S 2 k ∧ mf (6 * k + 1) = s_ar S 3 k ∧ mf (6 * k + 2) = s_ar S 4 k ∧ mf (6 * k + 3) = s_ar S 5 k ∧ mf (6 * k + 4) = s_ar S 6 k ∧ mf (6 * k + 5) = s_ar S 7 k) ∧ ∀ k, s_L S ≤ k → mf (6 * k + 5) = 0) ∧ (hA la = some (rowI G 60 lf) ∧ lRl S lf) ∧ hA pa = some (rowI G 3 pf) ∧ hA ta = some (rowI G 18 tf) ∧ ∀ c, c < s_C S → tf (3 * c) = s_ar S 11 c ∧ tf (3 * c + 1) = s_ar S 12 c ∧ tf (3 * c + 2) = s_ar S 13 c
def lgS (S : PS) : Prop := (∀ k, k < s_L S → (∃ b, b ≤ 3 ∧ s_ar S 2 k = nI b) ∧ (∃ p, p ≤ 9 ∧ s_ar S 3 k = nI p) ∧ (∃ p, p ≤ 2 ∧ s_ar S 6 k = nI p) ∧ (s_ar S 7 k = 0 ∨ s_ar S 7 k = 1)) ∧ s_b S = 0 ∧ s_n S = 64 ∧ s_t S = 0 ∧ ∀ j, j < 3 → s_ar S 9 j = nI 5000
theorem hang_ar {S : PS} {b p g w ph : Int32} : s_ar (hangP b p g w ph S) 2 = upd (s_ar S 2) (s_L S) b ∧ s_ar (hangP b p g w ph S) 3 = upd (s_ar S 3) (s_L S) p ∧ s_ar (hangP b p g w ph S) 4 = upd (s_ar S 4) (s_L S) g ∧ s_ar (hangP b p g w ph S) 5 = upd (s_ar S 5) (s_L S) w ∧ s_ar (hangP b p g w ph S) 6 = upd (s_ar S 6) (s_L S) ph ∧ ∀ k, 7 ≤ k → s_ar (hangP b p g w ph S) k = s_ar S k := by
  have e : s_ar (hangP b p g w ph S) = lampR (s_ar S) (s_L S) b p g w ph := rfl
  refine ⟨?_, ?_, ?_, ?_, ?_, fun k hk => by rw [e]; exact lampR_hi hk⟩ <;> rw [e] <;> unfold lampR
  · rw [set2_ne (by decide), set2_ne (by decide), set2_ne (by decide), set2_ne (by decide), set2_at]
  · rw [set2_ne (by decide), set2_ne (by decide), set2_ne (by decide), set2_at, set2_ne (by decide)]
  · rw [set2_ne (by decide), set2_ne (by decide), set2_at, set2_ne (by decide), set2_ne (by decide)]
  · rw [set2_ne (by decide), set2_at, set2_ne (by decide), set2_ne (by decide), set2_ne (by decide)]
  · rw [set2_at, set2_ne (by decide), set2_ne (by decide), set2_ne (by decide), set2_ne (by decide)]
theorem hang_m {S : PS} {mf : Nat → Int32} {b p g w ph : Int32} {k : Nat} (hk : s_L S = k) (h : ∀ k, k < s_L S → mf (6 * k) = s_ar S 2 k ∧ mf (6 * k + 1) = s_ar S 3 k ∧ mf (6 * k + 2) = s_ar S 4 k ∧ mf (6 * k + 3) = s_ar S 5 k ∧ mf (6 * k + 4) = s_ar S 6 k ∧ mf (6 * k + 5) = s_ar S 7 k) (hz : ∀ k, s_L S ≤ k → mf (6 * k + 5) = 0) (h7 : s_ar S 7 k = 0) {mf' : Nat → Int32} (em : mf' = upd (upd (upd (upd (upd mf (6 * k) b) (6 * k + 1) p) (6 * k + 2) g) (6 * k + 3) w) (6 * k + 4) ph) : (∀ i, i < s_L (hangP b p g w ph S) → mf' (6 * i) = s_ar (hangP b p g w ph S) 2 i ∧ mf' (6 * i + 1) = s_ar (hangP b p g w ph S) 3 i ∧ mf' (6 * i + 2) = s_ar (hangP b p g w ph S) 4 i ∧ mf' (6 * i + 3) = s_ar (hangP b p g w ph S) 5 i ∧ mf' (6 * i + 4) = s_ar (hangP b p g w ph S) 6 i ∧ mf' (6 * i + 5) = s_ar (hangP b p g w ph S) 7 i) ∧ ∀ i, s_L (hangP b p g w ph S) ≤ i → mf' (6 * i + 5) = 0 := by
  subst em
  obtain ⟨e2, e3, e4, e5, e6, e7⟩ := hang_ar (S := S) (b := b) (p := p) (g := g) (w := w) (ph := ph)
  have eL : s_L (hangP b p g w ph S) = s_L S + 1 := rfl
  rw [eL]
  refine ⟨fun i hi => ?_, fun i hi => ?_⟩
  · rw [e2, e3, e4, e5, e6, e7 7 (by decide), hk]
    by_cases z : i = k
    · subst z
      refine ⟨?_, ?_, ?_, ?_, ?_, ?_⟩
      · rw [upd_ne (by omega), upd_ne (by omega), upd_ne (by omega), upd_ne (by omega), upd_at, upd_at]
      · rw [upd_ne (by omega), upd_ne (by omega), upd_ne (by omega), upd_at, upd_at]
      · rw [upd_ne (by omega), upd_ne (by omega), upd_at, upd_at]
      · rw [upd_ne (by omega), upd_at, upd_at]
      · rw [upd_at, upd_at]
      · rw [upd_ne (by omega), upd_ne (by omega), upd_ne (by omega), upd_ne (by omega), upd_ne (by omega), h7]
        exact hz i (by omega)
    · obtain ⟨a1, a2, a3, a4, a5, a6⟩ := h i (by omega)
      rw [upd_ne z, upd_ne z, upd_ne z, upd_ne z, upd_ne z]
      refine ⟨?_, ?_, ?_, ?_, ?_, ?_⟩ <;> rw [upd_ne (by omega), upd_ne (by omega), upd_ne (by omega), upd_ne (by omega), upd_ne (by omega)] <;> assumption
  · rw [upd_ne (by omega), upd_ne (by omega), upd_ne (by omega), upd_ne (by omega), upd_ne (by omega)]
    exact hz i (by omega)
theorem hang_S {S : PS} {b p w ph : Nat} {g : Int32} (hb : b ≤ 3) (hp : p ≤ 9) (hh : ph ≤ 2) (h7 : s_ar S 7 (s_L S) = 0) (h : lgS S) : lgS (hangP (nI b) (nI p) g (nI w) (nI ph) S) := by
  obtain ⟨h1, h2, h3, h4, h5⟩ := h
  obtain ⟨e2, e3, e4, e5, e6, e7⟩ := hang_ar (S := S) (b := nI b) (p := nI p) (g := g) (w := nI w) (ph := nI ph)
  refine ⟨fun i hi => ?_, h2, h3, h4, fun j hj => by rw [e7 9 (by decide)]; exact h5 j hj⟩
  have eL : s_L (hangP (nI b) (nI p) g (nI w) (nI ph) S) = s_L S + 1 := rfl
  rw [eL] at hi
  rw [e2, e3, e6, e7 7 (by decide)]
  by_cases z : i = s_L S
  · rw [z, upd_at, upd_at, upd_at]
    exact ⟨⟨b, hb, rfl⟩, ⟨p, hp, rfl⟩, ⟨ph, hh, rfl⟩, Or.inl h7⟩
  · rw [upd_ne z, upd_ne z, upd_ne z]
    exact h1 i (by omega)
theorem hang_l {S : PS} {lf : Nat → Int32} {b p g w ph : Int32} (h : lRl S lf) : lRl (hangP b p g w ph S) lf := h.of ((hang_ar (S := S) (b := b) (p := p) (g := g) (w := w) (ph := ph)).2.2.2.2.2 14 (by decide))
theorem cue_ar {S : PS} {so up dn : Int32} : s_ar (cueP so up dn S) 11 = upd (s_ar S 11) (s_C S) so ∧ s_ar (cueP so up dn S) 12 = upd (s_ar S 12) (s_C S) up ∧ s_ar (cueP so up dn S) 13 = upd (s_ar S 13) (s_C S) dn ∧ ∀ k, k ∈ [2, 3, 4, 5, 6, 7, 9, 14] → s_ar (cueP so up dn S) k = s_ar S k := by
  have e : s_ar (cueP so up dn S) = set2 (set2 (set2 (set2 (s_ar S) 11 (s_C S) so) 12 (s_C S) up) 13 (s_C S) dn) 15 (s_C S) (-1) := rfl
  rw [e]
  refine ⟨?_, ?_, ?_, fun k hk => ?_⟩
  · rw [set2_ne (by decide), set2_ne (by decide), set2_ne (by decide), set2_at]
  · rw [set2_ne (by decide), set2_ne (by decide), set2_at, set2_ne (by decide)]
  · rw [set2_ne (by decide), set2_at, set2_ne (by decide), set2_ne (by decide)]
  · have n11 : k ≠ 11 := fun z => by subst z; revert hk; decide
    have n12 : k ≠ 12 := fun z => by subst z; revert hk; decide
    have n13 : k ≠ 13 := fun z => by subst z; revert hk; decide
    have n15 : k ≠ 15 := fun z => by subst z; revert hk; decide
    rw [set2_ne n15, set2_ne n13, set2_ne n12, set2_ne n11]
theorem cue_t {S : PS} {tf : Nat → Int32} {so up dn : Int32} {k : Nat} (hk : s_C S = k) (h : ∀ c, c < s_C S → tf (3 * c) = s_ar S 11 c ∧ tf (3 * c + 1) = s_ar S 12 c ∧ tf (3 * c + 2) = s_ar S 13 c) {tf' : Nat → Int32} (et : tf' = upd (upd (upd tf (3 * k) so) (3 * k + 1) up) (3 * k + 2) dn) : ∀ c, c < s_C (cueP so up dn S) → tf' (3 * c) = s_ar (cueP so up dn S) 11 c ∧ tf' (3 * c + 1) = s_ar (cueP so up dn S) 12 c ∧ tf' (3 * c + 2) = s_ar (cueP so up dn S) 13 c := by
  subst et
  obtain ⟨e1, e2, e3, _⟩ := cue_ar (S := S) (so := so) (up := up) (dn := dn)
  have eC : s_C (cueP so up dn S) = s_C S + 1 := rfl
  rw [eC]
  intro c hc
  rw [e1, e2, e3, hk]
  by_cases z : c = k
  · subst z
    refine ⟨?_, ?_, ?_⟩
    · rw [upd_ne (by omega), upd_ne (by omega), upd_at, upd_at]
    · rw [upd_ne (by omega), upd_at, upd_at]
    · rw [upd_at, upd_at]
  · obtain ⟨a1, a2, a3⟩ := h c (by omega)
    rw [upd_ne z, upd_ne z, upd_ne z]
    refine ⟨?_, ?_, ?_⟩ <;> rw [upd_ne (by omega), upd_ne (by omega), upd_ne (by omega)] <;> assumption
theorem lgS.of {S S' : PS} (h : lgS S) (e : ∀ k, k ∈ [2, 3, 6, 7, 9] → s_ar S' k = s_ar S k) (e1 : s_L S' = s_L S) (e2 : s_b S' = s_b S) (e3 : s_n S' = s_n S) (e4 : s_t S' = s_t S) : lgS S' := by
  unfold lgS
  rw [e 2 (by decide), e 3 (by decide), e 6 (by decide), e 7 (by decide), e 9 (by decide), e1, e2, e3, e4]
  exact h
theorem shr_any {x j : Nat} (hx : x < 2 ^ 31) (hj : j < 3) : ∃ v, v < 2 ^ 31 ∧ nI x >>> (nI (5 + 4 * j) &&& 31) = nI v := by
  rcases (show j = 0 ∨ j = 1 ∨ j = 2 by omega) with rfl | rfl | rfl
  · exact ⟨_, Nat.lt_of_le_of_lt (Nat.div_le_self x _) hx, pk_shrN hx _ 5 (by decide)⟩
  · exact ⟨_, Nat.lt_of_le_of_lt (Nat.div_le_self x _) hx, pk_shrN hx _ 9 (by decide)⟩
  · exact ⟨_, Nat.lt_of_le_of_lt (Nat.div_le_self x _) hx, pk_shrN hx _ 13 (by decide)⟩
theorem gl_is {a c : Nat} (ha : a < 2) (hc : c < 2) : glI (nI (a * 10 + c)) = true := by
  rcases (show a = 0 ∨ a = 1 by omega) with rfl | rfl <;> rcases (show c = 0 ∨ c = 1 by omega) with rfl | rfl <;> decide
/-- all told: ten lamps, six cues -/
theorem lg_all {G : XG} {ca ma la pa ta : Nat} {S : PS} {hA : HM} {pf : Nat → Int32} (hL : s_L S = 10) (hC : s_C S = 6) (hp : hA pa = some (rowI G 3 pf)) (hpp : ∀ j, j < 3 → pf j = nI 5000) (hg : lgS S) (h : lgA G ca ma la pa ta S hA) : lwA G ca ma la pa ta S hA ∧ lS S := by
  obtain ⟨cf, mf, lf, pf', tf, ⟨a1, b1, b2, b3, b4, b5⟩, ⟨a2, c1, c2⟩, ⟨a3, b6⟩, a4, a5, b7⟩ := h
  obtain ⟨g1, g2, g3, g4, g5⟩ := hg
  rw [hL] at b1 c1 g1
  rw [hC] at b2 b7
  exact ⟨⟨cf, mf, lf, pf, tf, ⟨a1, b1, b2, b3, b4, 0, Nat.zero_le _, b5⟩, ⟨a2, c1⟩, ⟨a3, b6⟩, ⟨hp, fun j hj => (hpp j hj).trans (g5 j hj).symm⟩, a5, b7⟩, hL, hC, g1⟩
