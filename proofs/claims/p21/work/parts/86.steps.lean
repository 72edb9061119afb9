/-! what a going, a release, the passing of ticks leave -/
theorem cnt_same {p q : Nat → Bool} : ∀ n, (∀ k, k < n → p k = q k) → cnt_ p n = cnt_ q n
  | 0, _ => rfl
  | n + 1, h => by
    unfold cnt_
    rw [cnt_same n (fun k hk => h k (by omega)), h n (by omega)]
theorem cnt_one {p q : Nat → Bool} {a : Nat} (ha : p a = false) (hb : q a = true) (hs : ∀ k, k ≠ a → p k = q k) : ∀ n, cnt_ q n = cnt_ p n + (if a < n then 1 else 0)
  | 0 => rfl
  | n + 1 => by
    have ih := cnt_one ha hb hs n
    unfold cnt_
    rw [ih]
    by_cases z : n = a
    · subst z
      rw [ha, hb, if_neg (Nat.lt_irrefl _), if_pos (Nat.lt_succ_self _)]
      rfl
    · rw [hs n z]
      by_cases y : a < n
      · rw [if_pos y, if_pos (show a < n + 1 by omega)]
        omega
      · rw [if_neg y, if_neg (show ¬ a < n + 1 by omega)]
        omega
theorem cnt_len {n : Nat} : ∀ l : List Nat, l.Nodup → (∀ x, x ∈ l → x < n) → cnt_ (fun k => decide (k ∈ l)) n = l.length
  | [], _, _ => by
    have : ∀ n, cnt_ (fun k => decide (k ∈ ([] : List Nat))) n = 0 := fun n => by
      induction n with
      | zero => rfl
      | succ n ih => unfold cnt_; rw [ih]; simp
    exact this n
  | a :: l, hn, hl => by
    obtain ⟨h1, h2⟩ := List.nodup_cons.mp hn
    have ih := cnt_len l h2 (fun x hx => hl x (List.mem_cons_of_mem _ hx))
    rw [cnt_one (p := fun k => decide (k ∈ l)) (q := fun k => decide (k ∈ a :: l)) (a := a) (decide_eq_false h1) (decide_eq_true List.mem_cons_self) (fun k hk => by simp [hk]) n, ih, if_pos (hl a List.mem_cons_self)]
    rfl
/-- how many are active behind a going -/
def acN (S : PS) (c : Nat) : Nat → Nat := cnt_ (fun k => decide (k ∈ (gBeg c (s_t S) (s_G S)).map Prod.fst))
theorem acN_all {S : PS} {c : Nat} (hg : gI 6 (s_G S)) (hc : c < 6) : acN S c 6 = (s_G (begP c S)).length := by
  have h := gBeg_I (t := s_t S) hg hc
  have := cnt_len (n := 6) ((gBeg c (s_t S) (s_G S)).map Prod.fst) h.1 (fun x hx => by
    obtain ⟨g, hg1, e⟩ := List.mem_map.mp hx
    rw [← e]
    exact h.2 g hg1)
  rw [List.length_map] at this
  exact this
theorem acN_s {S : PS} {c k : Nat} : acN S c (k + 1) = acN S c k + (if decide (k ∈ (gBeg c (s_t S) (s_G S)).map Prod.fst) = true then 1 else 0) := rfl
theorem acN_c {S : PS} {c : Nat} : acN S c (c + 1) = acN S c c + 1 := by
  rw [acN_s, decide_eq_true, if_pos rfl]
  unfold gBeg
  simp
theorem acN_y {S : PS} {c k : Nat} (h : k ≠ c) {g : GG} (hg : g ∈ s_G S) (hk : g.1 = k) : acN S c (k + 1) = acN S c k + 1 := by
  rw [acN_s, decide_eq_true, if_pos rfl]
  refine List.mem_map.mpr ⟨g, ?_, hk⟩
  unfold gBeg
  refine List.mem_append_left _ (List.mem_filter.mpr ⟨hg, ?_⟩)
  simp [hk, h]
theorem acN_n {S : PS} {c k : Nat} (h : k ≠ c) (hno : ∀ g, g ∈ s_G S → g.1 ≠ k) : acN S c (k + 1) = acN S c k := by
  rw [acN_s, decide_eq_false, if_neg (by decide), Nat.add_zero]
  intro z
  obtain ⟨g, hg, e⟩ := List.mem_map.mp z
  rcases beg_mem hg with y | y
  · exact hno g y e
  · rw [y] at e
    exact h e.symm
theorem goF_none_iff {GL : List GG} {c : Nat} (h : goF GL c = none) : ∀ g, g ∈ GL → g.1 ≠ c := fun g hg => by
  unfold goF at h
  have := List.find?_eq_none.mp h g hg
  simpa using this
/-- whether it may go, phase by phase -/
def mayB (S : PS) (c : Nat) : Nat → Bool
  | 0 => true
  | k + 1 => mayB S c k && decide (askP (s_ar S) (s_L S) (s_B S) (s_G S) c (nI k) ≤ s_ar S 9 k)
theorem mayB_3 {S : PS} {c : Nat} : mayB S c 3 = canP (s_ar S) (s_L S) (s_B S) (s_G S) c := by
  unfold mayB mayB mayB mayB canP
  simp [Bool.and_assoc]
theorem mayB_y {S : PS} {c k : Nat} (h : mayB S c k = true) (h2 : askP (s_ar S) (s_L S) (s_B S) (s_G S) c (nI k) ≤ s_ar S 9 k) : mayB S c (k + 1) = true := by
  show (mayB S c k && _) = true
  rw [h, decide_eq_true h2]
  rfl
theorem mayB_n1 {S : PS} {c k : Nat} (h : mayB S c k = false) : mayB S c (k + 1) = false := by
  show (mayB S c k && _) = false
  rw [h]
  rfl
theorem mayB_n2 {S : PS} {c k : Nat} (h2 : ¬ askP (s_ar S) (s_L S) (s_B S) (s_G S) c (nI k) ≤ s_ar S 9 k) : mayB S c (k + 1) = false := by
  show (mayB S c k && _) = false
  rw [decide_eq_false h2, Bool.and_false]
def gW (S : PS) (c : Nat) : PS := if canP (s_ar S) (s_L S) (s_B S) (s_G S) c = true then begP c S else S
theorem gW_y {S : PS} {c : Nat} (h : canP (s_ar S) (s_L S) (s_B S) (s_G S) c = true) : gW S c = begP c S := if_pos h
theorem gW_n {S : PS} {c : Nat} (h : ¬ canP (s_ar S) (s_L S) (s_B S) (s_G S) c = true) : gW S c = S := if_neg h
theorem beg_go {S : PS} {c : Nat} (hg : gI 6 (s_G S)) (hc : c < 6) : goF (s_G (begP c S)) c = some (c, s_t S, 0) := by
  refine goF_some (gBeg_I (t := s_t S) hg hc).1 ?_ rfl
  show (c, s_t S, 0) ∈ gBeg c (s_t S) (s_G S)
  unfold gBeg
  exact List.mem_append_right _ (List.mem_singleton.mpr rfl)
theorem div0 : ∀ u, u < 61 → u ≠ 0 → (FP.fdiv (FP.i2f (nI 0)) (FP.i2f (nI u))).toNat = 0 := by decide +kernel
theorem fall0 : ∀ d, d < 61 → d ≠ 0 → fallR (nI d) (nI 0) = FP.fconst1 := by decide +kernel
theorem mas_new {ar : Nat → Nat → Int32} {t c u : Nat} (hu : u ≤ 60) (e : ar 12 c = nI u) : (masP ar t (c, t, 0)).toNat = if u = 0 then 1065353216 else 0 := by
  unfold masP masterG
  rw [if_pos (show relI 0 = -1 from rfl), e, sub_nI (Nat.le_refl _), Nat.sub_self]
  obtain ⟨m1, m2⟩ := mas_up (u := u) (s := 0) hu (by decide)
  by_cases z : u = 0
  · rw [if_pos z, m1 (by omega)]
    rfl
  · rw [if_neg z, m2 (by omega)]
    exact div0 u (by omega) z
theorem mul_one' {m : UInt32} (h : nn m) (hb : fz m ≤ fO) : FP.fmul m FP.fconst1 = m := by
  have k : fz m * fz FP.fconst1 = fz m * fO := by rw [fz_one]
  have h1 := fz_mul_le (V := m) h.1 nn_one.1 h.ne (Int.le_of_eq k)
  have h2 := fz_mul_ge (V := m) h.1 nn_one.1 h.ne (Int.le_of_eq k.symm)
  have g := h.ge
  exact fz_inj ⟨fin_mid (ne_mul h.1 nn_one.1) h.1 h1 (by omega), sgn_mul h nn_one⟩ h (by omega)
def rW (S : PS) (c : Nat) : PS := match goF (s_G S) c with
  | none => S
  | some g => if relI g.2.2 = -1 then relP c S else S
theorem rW_none {S : PS} {c : Nat} (h : goF (s_G S) c = none) : rW S c = S := by unfold rW; rw [h]
theorem rW_rel {S : PS} {c : Nat} {g : GG} (h : goF (s_G S) c = some g) (hr : ¬ relI g.2.2 = -1) : rW S c = S := by unfold rW; rw [h]; exact if_neg hr
theorem rW_y {S : PS} {c : Nat} {g : GG} (h : goF (s_G S) c = some g) (hr : relI g.2.2 = -1) : rW S c = relP c S := by unfold rW; rw [h]; exact if_pos hr
/-- what is left of a going that is released -/
theorem rel_go {S : PS} {c d : Nat} {g : GG} (hI : cI S) (ht : s_t S < 2 ^ 20) (hg : goF (s_G S) c = some g) (hd : d ≤ 60) (e13 : s_ar S 13 c = nI d) : (d = 0 → goF (s_G (relP c S)) c = none) ∧ (d ≠ 0 → goF (s_G (relP c S)) c = some (c, g.2.1, s_t S + 1)) := by
  obtain ⟨h1, h2⟩ := goF_in hg
  have hgI := hI.1.2.2.2.1
  have hfI := fallG_I (c := c) (t := s_t S) hgI
  have hmem : ((c, g.2.1, s_t S + 1) : GG) ∈ fallG c (s_t S) (s_G S) := by
    refine List.mem_map.mpr ⟨g, h1, ?_⟩
    rw [if_pos h2]
    rw [← h2]
  have hov : ovP (s_ar S) (s_t S) (c, g.2.1, s_t S + 1) = false ↔ d ≠ 0 := by
    rw [ov_iff (t := s_t S) (d := d) (by omega) (Nat.le_refl _) hd e13]
    refine ⟨fun z => ?_, fun z _ => by show s_t S - (s_t S + 1 - 1) < d; omega⟩
    have := z (by show s_t S + 1 ≠ 0; omega)
    omega
  refine ⟨fun z => ?_, fun z => ?_⟩
  · refine goF_none (fun x hx e => ?_)
    have hx' := List.mem_filter.mp hx
    have k : x = (c, g.2.1, s_t S + 1) := by
      have e1 := goF_some hfI.1 hx'.1 e
      have e2 := goF_some hfI.1 hmem rfl
      exact Option.some.inj (e1.symm.trans e2)
    have k2 := hx'.2
    rw [k] at k2
    have k3 : ovP (s_ar S) (s_t S) (c, g.2.1, s_t S + 1) = false := by simpa using k2
    exact hov.mp k3 z
  · refine goF_some ((hfI.filter _).1) (List.mem_filter.mpr ⟨hmem, ?_⟩) rfl
    rw [hov.mpr z]
    rfl
theorem mas_rel {ar : Nat → Nat → Int32} {t d : Nat} {g : GG} (h : goI ar t g) (hr : relI g.2.2 = -1) (hd : d ≤ 60) (hd0 : d ≠ 0) (e13 : ar 13 g.1 = nI d) (ht : t < 2 ^ 20) : masP ar t (g.1, g.2.1, t + 1) = masP ar t g := by
  have hm := masP_is h
  obtain ⟨⟨u, hu, e12⟩, _, hw, _⟩ := h
  have e1 : masP ar t g = masterR (nI u) (nI (t - g.2.1)) := by
    unfold masP masterG
    rw [if_pos hr, e12, sub_nI hw]
  rw [e1] at hm ⊢
  unfold masP masterG
  dsimp only
  rw [e12, e13, show relI (t + 1) = nI t from rfl, if_neg (nI_nm (by omega)), if_neg (fun z => hd0 ((up0 hd).mp z)), sub_nI hw, sub_nI (Nat.le_refl t), Nat.sub_self, fall0 d (by omega) hd0]
  exact mul_one' hm.1 hm.2.1
/-- behind a tick a going is the same, or a later one -/
theorem stepP_G {S : PS} {c t : Nat} {G0 : List GG} (h : ∀ g, g ∈ s_G S → g ∈ G0 ∨ t < g.2.1) (ht : t < s_t S) : ∀ g, g ∈ s_G (stepP S c) → g ∈ G0 ∨ t < g.2.1 := by
  unfold stepP
  split
  · intro g hg
    rcases beg_mem (show g ∈ gBeg c (s_t S) (s_G S) from hg) with z | z
    · exact h g z
    · rw [z]
      exact Or.inr ht
  · exact h
theorem fold_G {t : Nat} {G0 : List GG} : ∀ (l : List Nat) (S : PS), (∀ g, g ∈ s_G S → g ∈ G0 ∨ t < g.2.1) → t < s_t S → ∀ g, g ∈ s_G (l.foldl stepP S) → g ∈ G0 ∨ t < g.2.1
  | [], _, h, _ => h
  | c :: l, S, h, ht => fold_G l (stepP S c) (stepP_G h ht) (by
      have := (fold_keep [c] S).2.2.2.2
      rw [show s_t (stepP S c) = s_t S from this]
      exact ht)
theorem passK_G {S : PS} : ∀ n, ∀ g, g ∈ s_G (passK S n) → g ∈ s_G S ∨ s_t S < g.2.1
  | 0 => fun _ hg => Or.inl hg
  | n + 1 => by
    have ih := passK_G (S := S) n
    have ht := (passK_keep S n).2.2.2.2
    refine fold_G (dueP (passK S n)) (tkP (passK S n)) (fun g hg => ih g (List.mem_filter.mp hg).1) ?_
    show s_t S < s_t (passK S n) + 1
    omega
/-- barred ones, counted -/
theorem fold_b : ∀ (l : List Nat) (S : PS), s_b S ≤ s_b (l.foldl stepP S) ∧ s_b (l.foldl stepP S) ≤ s_b S + l.length
  | [], S => ⟨Nat.le_refl _, Nat.le_refl _⟩
  | c :: l, S => by
    have ih := fold_b l (stepP S c)
    have h : s_b S ≤ s_b (stepP S c) ∧ s_b (stepP S c) ≤ s_b S + 1 := by
      unfold stepP
      split
      · exact ⟨Nat.le_refl _, Nat.le_succ _⟩
      · exact ⟨Nat.le_succ _, Nat.le_refl _⟩
    rw [List.foldl_cons, List.length_cons]
    omega
theorem passK_b {S : PS} {k : Nat} (h : iI S k) (hk : k ≤ 511) : ∀ n, n ≤ 20 → s_b S ≤ s_b (passK S n) ∧ s_b (passK S n) ≤ s_b S + 511 * n
  | 0, _ => ⟨Nat.le_refl _, Nat.le_refl _⟩
  | n + 1, hn => by
    have ih := passK_b h hk n (by omega)
    have hN := (iI_passK h hk n (by omega)).2.2.1
    have hb := fold_b (dueP (passK S n)) (tkP (passK S n))
    have hd : (dueP (passK S n)).length ≤ (s_N (passK S n)).length := by
      unfold dueP
      rw [List.length_map]
      exact List.length_filter_le _ _
    have e0 : s_b (tkP (passK S n)) = s_b (passK S n) := rfl
    have e1 : passK S (n + 1) = (dueP (passK S n)).foldl stepP (tkP (passK S n)) := rfl
    rw [e1]
    omega
