/-! a cue's lamps found in two passes, and in one -/
theorem nearF_ext {c c' : Nat → Bool} {dd dd' : Nat → Int32} : ∀ n, (∀ k, k < n → c k = c' k ∧ dd k = dd' k) → nearF c dd n = nearF c' dd' n
  | 0, _ => rfl
  | n + 1, h => by
    have ih := nearF_ext n (fun k hk => h k (by omega))
    obtain ⟨h1, h2⟩ := h n (by omega)
    unfold nearF
    rw [ih, h1, h2]
theorem nearF_more {c : Nat → Bool} {dd : Nat → Int32} {L : Nat} (h : ∀ k, L ≤ k → c k = false) : ∀ d, nearF c dd (L + d) = nearF c dd L
  | 0 => rfl
  | d + 1 => by
    rw [← nearF_more h d]
    exact nearF_n (n := L + d) (by rw [h (L + d) (by omega)]; rfl)
section FI
variable {L : Nat} {R : Nat → Nat → Int32} {B : Int32} {T : Nat → Int32}
theorem near_lt {lvl : Nat → Int32} {m : Nat} : nearS L R B T lvl m = -1 ∨ ∃ k, k < L ∧ k < 16 ∧ nearS L R B T lvl m = nI k ∧ T k = 0 := by
  unfold nearS
  rcases nearF_is (candS L R B T lvl m) (distS R m) 16 with h | ⟨k, h1, h2, h3⟩
  · exact Or.inl h
  · unfold candS at h3
    simp at h3
    exact Or.inr ⟨k, h3.1, h1, h2, h3.2.2.2.1⟩
theorem arrF_end : ∀ d, arrF L R B T (L + d) = arrF L R B T L
  | 0 => rfl
  | d + 1 => by rw [← arrF_end d]; exact arrF_no (n := L + d) (Or.inl (by omega))
/-- what the one pass holds so far -/
def arrI (L : Nat) (R : Nat → Nat → Int32) (B : Int32) (T : Nat → Int32) (n : Nat) : Prop := ∀ j, j < L →
  (T j ≠ 0 → usV B (R 2 j) (R 7 j) = true → (j < n → (arrF L R B T n).1 j = nI j ∧ (arrF L R B T n).2 j = T j) ∧ (n ≤ j → (arrF L R B T n).1 j = -1 ∧ (arrF L R B T n).2 j = 0)) ∧
  (T j ≠ 0 → usV B (R 2 j) (R 7 j) = false → (arrF L R B T n).2 j = 0 ∧ (n ≤ j → (arrF L R B T n).1 j = -1)) ∧
  (T j = 0 → (arrF L R B T n).1 j = -1)
theorem arrI_all (hL : L ≤ 16) : ∀ n, n ≤ L → arrI L R B T n
  | 0, _ => fun j _ => ⟨fun _ _ => ⟨fun h => absurd h (by omega), fun _ => ⟨rfl, rfl⟩⟩, fun _ _ => ⟨rfl, fun _ => rfl⟩, fun _ => rfl⟩
  | n + 1, hn => by
    have ih := arrI_all hL n (by omega)
    by_cases hT : T n = 0
    · have e : arrF L R B T (n + 1) = arrF L R B T n := arrF_no (Or.inr hT)
      intro j hj
      obtain ⟨i1, i2, i3⟩ := ih j hj
      rw [e]
      refine ⟨fun a b => ⟨fun c => ?_, fun c => (i1 a b).2 (by omega)⟩, fun a b => ⟨(i2 a b).1, fun c => (i2 a b).2 (by omega)⟩, i3⟩
      by_cases ej : j = n
      · subst ej; exact absurd hT a
      · exact (i1 a b).1 (by omega)
    · cases hu : usV B (R 2 n) (R 7 n) with
      | true =>
        have e := arrF_put (L := L) (ar := R) (bars := B) (told := T) (n := n) (s := nI n) (by omega) hT (by rw [hu]; rfl) (nI_pos' (by omega)) (by exact (nI_ltI (by omega) (by omega)).mpr (by omega))
        rw [nI_clamp (by omega)] at e
        intro j hj
        obtain ⟨i1, i2, i3⟩ := ih j hj
        rw [e]
        by_cases ej : j = n
        · subst ej
          refine ⟨fun a b => ⟨fun c => ⟨upd_at _ _ _, upd_at _ _ _⟩, fun c => absurd c (by omega)⟩, fun a b => (by rw [hu] at b; cases b), fun a => absurd a hT⟩
        · dsimp only
          rw [upd_ne ej, upd_ne ej]
          exact ⟨fun a b => ⟨fun c => (i1 a b).1 (by omega), fun c => (i1 a b).2 (by omega)⟩, fun a b => ⟨(i2 a b).1, fun c => (i2 a b).2 (by omega)⟩, i3⟩
      | false =>
        rcases near_lt (L := L) (R := R) (B := B) (T := T) (lvl := (arrF L R B T n).2) (m := n) with hs | ⟨k, hk1, hk2, hs, hk3⟩
        · have e : arrF L R B T (n + 1) = arrF L R B T n := arrF_out (s := -1) (by rw [hu]; exact hs) (fun z => absurd z.1 (by decide))
          intro j hj
          obtain ⟨i1, i2, i3⟩ := ih j hj
          rw [e]
          refine ⟨fun a b => ⟨fun c => ?_, fun c => (i1 a b).2 (by omega)⟩, fun a b => ⟨(i2 a b).1, fun c => (i2 a b).2 (by omega)⟩, i3⟩
          by_cases ej : j = n
          · subst ej; rw [hu] at b; cases b
          · exact (i1 a b).1 (by omega)
        · have e := arrF_put (L := L) (ar := R) (bars := B) (told := T) (n := n) (s := nI k) (by omega) hT (by rw [hu]; exact hs) (nI_pos' (by omega)) ((nI_ltI (by omega) (by omega)).mpr (by omega))
          rw [nI_clamp (by omega)] at e
          intro j hj
          obtain ⟨i1, i2, i3⟩ := ih j hj
          rw [e]
          dsimp only
          by_cases ej : j = n
          · subst ej
            have ejk : j ≠ k := fun z => hT (by rw [z]; exact hk3)
            rw [upd_at, upd_ne ejk]
            exact ⟨fun a b => (by rw [hu] at b; cases b), fun a b => ⟨(i2 a b).1, fun c => absurd c (by omega)⟩, fun a => absurd a hT⟩
          · rw [upd_ne ej]
            by_cases ek : j = k
            · subst ek
              exact ⟨fun a => absurd hk3 a, fun a => absurd hk3 a, i3⟩
            · rw [upd_ne ek]
              exact ⟨fun a b => ⟨fun c => (i1 a b).1 (by omega), fun c => (i1 a b).2 (by omega)⟩, fun a b => ⟨(i2 a b).1, fun c => (i2 a b).2 (by omega)⟩, i3⟩
/-- what the two passes hold, the second one at n -/
def finI (L : Nat) (R : Nat → Nat → Int32) (B : Int32) (T : Nat → Int32) (n : Nat) (I Sh : Nat → Int32) : Prop := ∀ j, j < L →
  (T j ≠ 0 → usV B (R 2 j) (R 7 j) = true → I j = T j ∧ Sh j = nI j) ∧
  (T j ≠ 0 → usV B (R 2 j) (R 7 j) = false → I j = 0 ∧ (j < n → Sh j = (arrF L R B T n).1 j)) ∧
  (T j = 0 → I j = (arrF L R B T n).2 j ∧ Sh j = -1)
theorem finI_end (hL : L ≤ 16) {I Sh : Nat → Int32} (h : finI L R B T L I Sh) : ∀ j, j < L → I j = (arrF L R B T 16).2 j ∧ Sh j = (arrF L R B T 16).1 j := by
  intro j hj
  obtain ⟨h1, h2, h3⟩ := h j hj
  obtain ⟨a1, a2, a3⟩ := arrI_all (L := L) (R := R) (B := B) (T := T) hL L (Nat.le_refl _) j hj
  have e : arrF L R B T 16 = arrF L R B T L := by
    have := arrF_end (L := L) (R := R) (B := B) (T := T) (16 - L)
    rw [show L + (16 - L) = 16 by omega] at this
    exact this
  rw [e]
  by_cases hT : T j = 0
  · exact ⟨(h3 hT).1, (h3 hT).2.trans (a3 hT).symm⟩
  · cases hu : usV B (R 2 j) (R 7 j) with
    | true => exact ⟨(h1 hT hu).1.trans ((a1 hT hu).1 hj).2.symm, (h1 hT hu).2.trans ((a1 hT hu).1 hj).1.symm⟩
    | false => exact ⟨(h2 hT hu).1.trans (a2 hT hu).1.symm, (h2 hT hu).2 hj⟩
theorem finI_skip (hL : L ≤ 16) {n : Nat} {I Sh : Nat → Int32} (hn : n < L) (h : finI L R B T n I Sh) (hs : T n = 0 ∨ usV B (R 2 n) (R 7 n) = true) : finI L R B T (n + 1) I Sh := by
  intro j hj
  obtain ⟨h1, h2, h3⟩ := h j hj
  by_cases hT : T n = 0
  · have e : arrF L R B T (n + 1) = arrF L R B T n := arrF_no (Or.inr hT)
    rw [e]
    refine ⟨h1, fun a b => ⟨(h2 a b).1, fun c => ?_⟩, h3⟩
    by_cases ej : j = n
    · subst ej; exact absurd hT a
    · exact (h2 a b).2 (by omega)
  · have hu := hs.resolve_left hT
    have e := arrF_put (L := L) (ar := R) (bars := B) (told := T) (n := n) (s := nI n) hn hT (by rw [hu]; rfl) (nI_pos' (by omega)) ((nI_ltI (by omega) (by omega)).mpr (by omega))
    rw [nI_clamp (by omega)] at e
    rw [e]
    by_cases ej : j = n
    · subst ej
      exact ⟨h1, fun a b => (by rw [hu] at b; cases b), fun a => absurd a hT⟩
    · dsimp only
      rw [upd_ne ej, upd_ne ej]
      exact ⟨h1, fun a b => ⟨(h2 a b).1, fun c => (h2 a b).2 (by omega)⟩, h3⟩
theorem finI_near {n : Nat} {I Sh : Nat → Int32} {R' : Nat → Nat → Int32} {c : Nat} (hL : L ≤ 16) (hn : n < L) (h : finI L R B T n I Sh) (e26 : R' 26 = I) (e2 : R' 2 = R 2) (e3 : R' 3 = R 3) (e4 : R' 4 = R 4) (e7 : R' 7 = R 7) (eT : ∀ k, k < 16 → R' 14 (16 * c + k) = T k) : nrM R' B c n L = nearS L R B T (arrF L R B T n).2 n := by
  unfold nrM nearS
  have hm := nearF_more (c := candS L R B T (arrF L R B T n).2 n) (dd := distS R n) (L := L) (fun k hk => by unfold candS; rw [decide_eq_false (by omega)]; rfl) (16 - L)
  rw [show L + (16 - L) = 16 by omega] at hm
  rw [hm]
  congr 1
  refine nearF_ext L (fun k hk => ⟨?_, by unfold distS; rw [e2, e3]⟩)
  unfold mayM candS
  rw [e2, e4, e7, e26, eT k (by omega), decide_eq_true hk, Bool.true_and]
  by_cases hT : T k = 0
  · rw [((h k hk).2.2 hT).1]
  · rw [decide_eq_false hT]
    simp
theorem finI_put (hL : L ≤ 16) {n : Nat} {I Sh : Nat → Int32} (hn : n < L) (h : finI L R B T n I Sh) (hT : T n ≠ 0) (hu : usV B (R 2 n) (R 7 n) = false) :
    (nearS L R B T (arrF L R B T n).2 n = -1 → finI L R B T (n + 1) I (upd Sh n (-1))) ∧ ∀ k, k < L → T k = 0 → nearS L R B T (arrF L R B T n).2 n = nI k → finI L R B T (n + 1) (upd I k (T n)) (upd Sh n (nI k)) := by
  refine ⟨fun hs => ?_, fun k hk hk3 hs => ?_⟩
  · have e : arrF L R B T (n + 1) = arrF L R B T n := arrF_out (s := -1) (by rw [hu]; exact hs) (fun z => absurd z.1 (by decide))
    have q9 := arrI_all (L := L) (R := R) (B := B) (T := T) hL n (by omega) n hn
    intro j hj
    obtain ⟨h1, h2, h3⟩ := h j hj
    rw [e]
    by_cases ej : j = n
    · subst ej
      rw [upd_at]
      exact ⟨fun a b => (by rw [hu] at b; cases b), fun a b => ⟨(h2 a b).1, fun _ => ((q9.2.1 hT hu).2 (Nat.le_refl _)).symm⟩ , fun a => absurd a hT⟩
    · rw [upd_ne ej]
      exact ⟨h1, fun a b => ⟨(h2 a b).1, fun c => (h2 a b).2 (by omega)⟩, h3⟩
  · have e := arrF_put (L := L) (ar := R) (bars := B) (told := T) (n := n) (s := nI k) hn hT (by rw [hu]; exact hs) (nI_pos' (by omega)) ((nI_ltI (by omega) (by omega)).mpr (by omega))
    rw [nI_clamp (by omega)] at e
    intro j hj
    obtain ⟨h1, h2, h3⟩ := h j hj
    rw [e]
    dsimp only
    by_cases ej : j = n
    · subst ej
      have ejk : j ≠ k := fun z => hT (by rw [z]; exact hk3)
      rw [upd_at, upd_ne ejk, upd_ne ejk, upd_at]
      exact ⟨fun a b => (by rw [hu] at b; cases b), fun a b => ⟨(h2 a b).1, fun _ => rfl⟩, fun a => absurd a hT⟩
    · rw [upd_ne ej, upd_ne ej]
      by_cases ek : j = k
      · subst ek
        rw [upd_at, upd_at]
        exact ⟨fun a => absurd hk3 a, fun a => absurd hk3 a, fun a => ⟨rfl, (h3 a).2⟩⟩
      · rw [upd_ne ek, upd_ne ek]
        exact ⟨h1, fun a b => ⟨(h2 a b).1, fun c => (h2 a b).2 (by omega)⟩, h3⟩
end FI
